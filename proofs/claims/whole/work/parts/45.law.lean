/-! THE LAW: one turn of its loop, case by case -/
def xZ (xs : Nat → Int32) (z : Int) : Int := (xs z.toNat).toInt
theorem xZ_r (xs : Nat → Int32) (z : Int) : -2147483648 ≤ xZ xs z ∧ xZ xs z < 2147483648 := ⟨Int32.le_toInt _, Int32.toInt_lt _⟩
def fz (v : Int) : Int := if v = 0 then 0 else 1
theorem fz_r (v : Int) : (-2147483648 ≤ fz v ∧ fz v < 2147483648) ∧ 0 ≤ fz v ∧ fz v ≤ 1 := by unfold fz; split <;> omega
def lwC (l : Launch) (p : Program) (s : State) (m : MethodId) (c : Code) (D : va_G) (cI cZ cJ : ClassId) (A : Nat → Prop) (bs L : Nat) (xs : Nat → Int32) : Prop :=
  l.stackTraces = false ∧ qM p m c code 7 s #[Value.ref bs] wsL_law RL D (tY cI cZ cJ) ∧ (∀ q : Nat, s.heap.size ≤ q → A q) ∧ qT A s s.heap ∧ va_X bs L xs s s.heap ∧ bs < s.heap.size ∧ ¬ A bs ∧ L ≤ 2560
def lwW (D : va_G) (A : Nat → Prop) (H0 : Heap) (cI cZ cJ : ClassId) (a b : Nat → Nat) (o : Nat) (f : Nat → Int64) (μ ν : Nat → Int → Int) (H : Heap) (locs : List Loc) : Prop := wW D A H0 (WL cI cJ a o f μ ++ WMod cI cZ b ν) H locs
def lwL (ls : Array Slot) (bs o : Nat) (a b : Nat → Nat) (i : Int) : Prop := lv_has ls 7 [(4, .int (iI i)), (0, .ref bs), (1, .ref (a 0)), (2, .ref (b 0)), (3, .ref o)]
def lwK (p : Program) (l : Launch) (e : Env) (s : State) (m : MethodId) (below : List Frame) (meth : Method) (c : Code) (Q : State → Prop) (D : va_G) (A : Nat → Prop) (cI cZ cJ : ClassId) (bs : Nat) (a b : Nat → Nat) (o : Nat) (i : Int) (cells slots : Nat) : Prop :=
  ∀ (f : Nat → Int64) (μ ν : Nat → Int → Int) (H : Heap) (locs : List Loc) (ls : Array Slot) (k n : Nat), k ≤ cells + 5 → n ≤ slots + 30 → Rel μ ν → lwW D A s.heap cI cZ cJ a b o f μ ν H locs → lwL ls bs o a b i → W p l e room_1 s m #[Value.ref bs] below meth c H locs k n Q (F0 m 1468 ls [])
section QW
variable {p : Program} {l : Launch} {e : Env} {R : Room} {s : State} {m : MethodId} {args : Array Value} {below : List Frame} {meth : Method} {c : Code} {H : Heap} {locs : List Loc} {cells slots : Nat} {Q : State → Prop} {cc bytes : ByteArray} {nL maxL index pc : Nat} {ls : Array Slot} {rest As st0 : List Value} {Ts wds wds' : List Cond} {own : String} {D : va_G} {tys : List (ClassId × FieldType)} {A : Nat → Prop} {H0 : Heap} {ws wc wc2 ws2 : va_W} {bs L : Nat} {xs : Nat → Int32} {y : MethodName} {rm : Room} {k : Int} {ret : Option FieldType} {lv : List (Nat × Value)} {hh : List (Nat × Nat × Nat × Nat)}
theorem q_sld (M : qM p m c cc nL s args Ts own D tys) (w : wW D A H0 ws H locs) (hX : va_X bs L xs s H0) (hbl : bs < H0.size) (hbA : ¬ A bs) (hL : L ≤ 2560) {z : Int} (hz : 0 ≤ z ∧ z < (L : Int)) (hdg : decode cc pc = .ok (.iaload, 1)) (kk : W p l e R s m args below meth c H locs cells slots Q (F0 m (pc + 1) ls (.int (iI (xZ xs z)) :: rest))) : W p l e R s m args below meth c H locs cells slots Q (F0 m pc ls (.int (iI z) :: .ref bs :: rest)) := by
  refine va_sld M.1.1 M.1.2.1 hX hbl hbA w.2.2 (iI_in ⟨hz.1, hz.2⟩ (by omega)) hdg ?_
  have h1 := iI_cl (z := z) (by omega)
  rw [show (iI z).toNatClampNeg = z.toNat by omega]
  unfold xZ at kk
  rw [iI_re] at kk
  exact kk
theorem q_slen (M : qM p m c cc nL s args Ts own D tys) (w : wW D A H0 ws H locs) (hX : va_X bs L xs s H0) (hbl : bs < H0.size) (hbA : ¬ A bs) (hdg : decode cc pc = .ok (.arraylength, 1)) (kk : W p l e R s m args below meth c H locs cells slots Q (F0 m (pc + 1) ls (.int (iI (L : Int)) :: rest))) : W p l e R s m args below meth c H locs cells slots Q (F0 m pc ls (.ref bs :: rest)) := by
  refine va_slen M.1.1 M.1.2.1 hX hbl hbA w.2.2 hdg ?_
  rw [show Int32.ofNat L = iI (L : Int) from Int32.ofInt_eq_ofNat.symm]
  exact kk
theorem q_lcmpE (M : qM p m c cc nL s args Ts own D tys) {x y : Int64} (h : x = y) (hdg : decode cc pc = .ok (.lcmp, 1)) (kk : W p l e R s m args below meth c H locs cells slots Q (F0 m (pc + 1) ls (.int (iI 0) :: rest))) : W p l e R s m args below meth c H locs cells slots Q (F0 m pc ls (.long y :: .long x :: rest)) := by
  subst h
  refine W.lcmp M.1.1 M.1.2.1 hdg ?_
  have e1 : lg_cmp x x = iI 0 := by rw [← iI_0]; simp [lg_cmp]
  rw [e1]
  exact kk
theorem q_eqE (M : qM p m c cc nL s args Ts own D tys) {x y : Int32} {off : Int} {tgt : Nat} (h : x = y) (hdg : decode cc pc = .ok (.if_icmp .eq off, 3)) (ht : (pc : Int) + off = (tgt : Int)) (kk : W p l e R s m args below meth c H locs cells slots Q (F0 m tgt ls rest)) : W p l e R s m args below meth c H locs cells slots Q (F0 m pc ls (.int y :: .int x :: rest)) :=
  lv_icmp_eq M.1.1 M.1.2.1 hdg ht (fun _ => kk) (fun q => absurd h q)
theorem q_topI {x y : Int32} (h : x = y) (kk : W p l e R s m args below meth c H locs cells slots Q (F0 m pc ls (.int y :: rest))) : W p l e R s m args below meth c H locs cells slots Q (F0 m pc ls (.int x :: rest)) := by rw [h]; exact kk
theorem qc_L (M : qM p m c cc nL s args Ts own D tys) (w : wW D A s.heap ws H locs) (hA : ∀ q : Nat, s.heap.size ≤ q → A q) (hT : qT A s s.heap) (hl : lv_has ls nL lv) (hC : Lc l D tys y wds rm As wc k wc2) (hg : GoodIn Ts (va_wsS own index y wds)) (hw : wds = Cond.codeWith y bytes maxL ret hh :: wds')
    (hrm : rm.frames + 1 ≤ R.frames ∧ 8 + (maxL + 11) + rm.locals ≤ R.locals) (hcs : cells + rm.cells ≤ R.cells ∧ slots + rm.slots ≤ R.slots) (n : Nat) (hd : y.cls ≠ "java/lang/invoke/MethodHandle" ∧ y.cls ≠ "java/lang/invoke/VarHandle" ∧ (parseMethodDescriptor y.desc).map (fun d => d.parameters.length) = some n) (hn : As.length = n)
    (bs : List Bool) (hwc : qSel bs ws = wc) (hfst : wc2.map Prod.fst = wc.map Prod.fst)
    (hst : st0 = As.reverse ++ rest) (hrest : (rest.map fun v => v.category).sum ≤ 8) (h2 : qMg bs wc2 ws = ws2) (hdg : decode cc pc = .ok (.invokestatic index, 3))
    (kk : ∀ (H1 : Heap) (locs1 : List Loc), wW D A s.heap ws2 H1 locs1 → W p l e R s m args below meth c H1 locs1 (cells + rm.cells) (slots + rm.slots) Q (F0 m (pc + 3) ls (.int (iI k) :: rest))) : W p l e R s m args below meth c H locs cells slots Q (F0 m pc ls st0) := by
  subst hwc
  have hP : va_P D vwCl (qSel bs ws) H ∧ va_D (fun _ => True) (qSel bs ws) := ⟨qSel_P w.1 bs, (qSel_D w.2.1 bs).weaken (fun _ _ _ _ => trivial)⟩
  have hF := qSel_free w.2.1 w.2.2 hA bs
  refine va_calli (vx_runSW (As := As) (rest := rest) M.1 (hC H.size) (vx_cwSW n M.1.2.2.2.2 hg hw rfl rfl hd hrm) ⟨qXB_blind, fun U hU hW => ⟨rfl, ⟨by rw [hU], by rw [hU]; exact hP.1, va_K.moved hW.alike M.2, hP.2⟩, qT_in hT w.2.2 hF hW hU⟩⟩ rfl hn hl.1 hst (lv_room hrest) hdg hcs) w.2.2 (fun q _ h => hF q h) hF (fun r u t H1 locs1 ht hvm hr hB hz1 hk1 hS => ?_)
  subst hr
  rw [ht] at hB
  obtain ⟨g1, g2⟩ := qMg_W w.1 w.2.1 bs hfst hk1 hB
  exact kk H1 locs1 (h2 ▸ ⟨g1, g2, hS⟩)
end QW

set_option maxHeartbeats 4000000 in
set_option maxRecDepth 100000 in
theorem law_setSize {p : Program} {l : Launch} {e : Env} {s : State} {m : MethodId} {below : List Frame} {meth : Method} {c : Code} {Q : State → Prop} {D : va_G} {cI cZ cJ : ClassId} {A : Nat → Prop} {bs L : Nat} {xs : Nat → Int32} (C : lwC l p s m c D cI cZ cJ A bs L xs) {a b : Nat → Nat} {o : Nat} {f : Nat → Int64} {μ ν : Nat → Int → Int} {H : Heap} {locs : List Loc} {ls : Array Slot} {cells slots : Nat} {i : Int} (hi : 0 ≤ i ∧ i + 5 ≤ (L : Int)) (hc : cells + 5 ≤ 601024 ∧ slots + 30 ≤ 7293034) (h : Rel μ ν) (w : lwW D A s.heap cI cZ cJ a b o f μ ν H locs) (hl : lwL ls bs o a b i) (kk : lwK p l e s m below meth c Q D A cI cZ cJ bs a b o i cells slots) : W p l e room_1 s m #[Value.ref bs] below meth c H locs cells slots Q (F0 m 148 ls []) := by
  obtain ⟨hfl, M, hA, hT, hX, hbl, hbA, hL⟩ := C
  have hl : lv_has ls 7 [(4, .int (iI i)), (0, .ref bs), (1, .ref (a 0)), (2, .ref (b 0)), (3, .ref o)] := hl
  have w : wW D A s.heap (WL cI cJ a o f μ ++ WMod cI cZ b ν) H locs := w
  obtain ⟨k, bz, f2, μ2, ν2, hLc, hCi, hk0, hko, hR, hkr, hpb⟩ := s_setSize l hfl D cI cZ cJ a b o f μ ν (xZ xs (i + 1)) (xZ xs (i + 2)) (xZ_r xs (i + 1)) (xZ_r xs (i + 2)) h
  refine q_aln M dL_law_148 (lv_at hl 2 rfl) ?_
  refine q_aln M dL_law_149 (lv_at hl 1 rfl) ?_
  refine q_il M dL_law_150 (lv_at hl 0 rfl) ?_
  refine q_ic M dL_law_152 ?_
  refine q_add M dL_law_153 ?_
  refine q_sld (z := i + 1) M w hX hbl hbA hL (by omega) dL_law_154 ?_
  refine q_aln M dL_law_155 (lv_at hl 1 rfl) ?_
  refine q_il M dL_law_156 (lv_at hl 0 rfl) ?_
  refine q_ic M dL_law_158 ?_
  refine q_add M dL_law_159 ?_
  refine q_sld (z := i + 2) M w hX hbl hbA hL (by omega) dL_law_160 ?_
  refine q_aln M dL_law_161 (lv_at hl 4 rfl) ?_
  refine qc_L (As := [.ref (a 0), .int (iI (xZ xs (i + 1))), .int (iI (xZ xs (i + 2))), .ref o]) (rest := []) (wc := WL cI cJ a o f μ) (wc2 := WL cI cJ a o f2 μ2) (ws2 := WL cI cJ a o f2 μ2 ++ WMod cI cZ b ν) M w hA hT hl hLc gL_law_L_setSize rfl ⟨by decide, by decide⟩ ⟨by show cells + 3 ≤ 601024; omega, by show slots + 18 ≤ 7293034; omega⟩ 4 (by decide +kernel) rfl [true, true, true, true, true, true, true, true, true, true, true, true, true, true, true, true, true, true, true, true, true, true, true, true, true, true, true, true, true, true, true, true, true, true, true, true, true, true, true, true, true, true, true, true, true, true, true, true, true, true, true] rfl rfl rfl (Nat.le_of_ble_eq_true rfl) rfl dL_law_162 (fun H locs w => ?_)
  refine q_is (lv' := [(5, .int (iI k)), (4, .int (iI i)), (0, .ref bs), (1, .ref (a 0)), (2, .ref (b 0)), (3, .ref o)]) M dL_law_165 hl (by decide) rfl (fun ls hl => ?_)
  refine q_aln M dL_law_167 (lv_at hl 4 rfl) ?_
  refine q_aln M dL_law_168 (lv_at hl 2 rfl) ?_
  refine q_il M dL_law_169 (lv_at hl 1 rfl) ?_
  refine q_ic M dL_law_171 ?_
  refine q_add M dL_law_172 ?_
  refine q_sld (z := i + 1) M w hX hbl hbA hL (by omega) dL_law_173 ?_
  refine q_aln M dL_law_174 (lv_at hl 2 rfl) ?_
  refine q_il M dL_law_175 (lv_at hl 1 rfl) ?_
  refine q_ic M dL_law_177 ?_
  refine q_add M dL_law_178 ?_
  refine q_sld (z := i + 2) M w hX hbl hbA hL (by omega) dL_law_179 ?_
  refine qc_iV (As := [.int (iI (xZ xs (i + 1))), .int (iI (xZ xs (i + 2)))]) (rest := []) (wc := WMod cI cZ b ν) (wc2 := WMod cI cZ b ν2) (ws2 := WL cI cJ a o f2 μ2 ++ WMod cI cZ b ν2) M w hA hl hCi gL_law_X7_setSize rfl ⟨rfl, rfl, by decide, by decide⟩ ⟨by show cells + 3 ≤ 601024; omega, by show slots + 18 ≤ 7293034; omega⟩ 2 ⟨rfl, by decide +kernel⟩ rfl [false, false, false, false, false, false, false, false, false, false, false, false, false, false, false, false, false, false, false, false, false, false, false, false, false, false, false, false, false, false, false, false, false, false, false, false, false, false, false, false, false, false, false, false, false, false, false, false, false, false, false, true, true, true, true, true, true, true, true, true, true, true, true, true, true, true, true, true, true, true, true, true] rfl rfl 51 rfl rfl rfl (Nat.le_of_ble_eq_true rfl) rfl dL_law_180 (fun H locs w => ?_)
  refine q_is (lv' := [(6, .int (iI bz)), (5, .int (iI k)), (4, .int (iI i)), (0, .ref bs), (1, .ref (a 0)), (2, .ref (b 0)), (3, .ref o)]) M dL_law_183 hl (by decide) rfl (fun ls hl => ?_)
  refine q_aln M dL_law_185 (lv_at hl 5 rfl) ?_
  refine qc_iV (As := []) (rest := []) (wc := WMod cI cZ b ν2) (wc2 := WMod cI cZ b ν2) (ws2 := WL cI cJ a o f2 μ2 ++ WMod cI cZ b ν2) M w hA hl (m_thrown l D cI cZ cJ b ν2) gL_law_X7_thrown rfl ⟨rfl, rfl, by decide, by decide⟩ ⟨by show cells + 3 ≤ 601024; omega, by show slots + 18 ≤ 7293034; omega⟩ 0 ⟨rfl, by decide +kernel⟩ rfl [false, false, false, false, false, false, false, false, false, false, false, false, false, false, false, false, false, false, false, false, false, false, false, false, false, false, false, false, false, false, false, false, false, false, false, false, false, false, false, false, false, false, false, false, false, false, false, false, false, false, false, true, true, true, true, true, true, true, true, true, true, true, true, true, true, true, true, true, true, true, true, true] rfl rfl 51 rfl rfl rfl (Nat.le_of_ble_eq_true rfl) rfl dL_law_186 (fun H locs w => ?_)
  refine q_il M dL_law_189 (lv_at hl 1 rfl) ?_
  refine q_eqE (tgt := 196) M (by rw [hk0]) dL_law_191 (by decide) ?_
  refine q_il M dL_law_196 (lv_at hl 1 rfl) ?_
  refine q_if_ne (tgt := 213) M dL_law_198 (by decide) (by omega) (fun c2 => ?_) (fun c2 => ?_)
  · refine q_go (tgt := 1468) M dL_law_213 (by decide) ?_
    exact kk f2 μ2 ν2 H locs ls _ _ (by show cells + 3 ≤ cells + 5; omega) (by show slots + 18 ≤ slots + 30; omega) hR w (lv_sub hl [2, 3, 4, 5, 6] rfl)
  · refine q_aln M dL_law_201 (lv_at hl 6 rfl) ?_
    refine q_ic M dL_law_202 ?_
    refine q_lald0 (f := f2) M w 0 2 rfl rfl dL_law_203 ?_
    refine q_il M dL_law_204 (lv_at hl 0 rfl) ?_
    refine q_i2l M dL_law_206 ?_
    refine q_lcmpE M (hko c2) dL_law_207 ?_
    refine q_if_eq (tgt := 213) M dL_law_208 (by decide) (by omega) (fun c3 => ?_) (fun c3 => absurd rfl c3)
    refine q_go (tgt := 1468) M dL_law_213 (by decide) ?_
    exact kk f2 μ2 ν2 H locs ls _ _ (by show cells + 3 ≤ cells + 5; omega) (by show slots + 18 ≤ slots + 30; omega) hR w (lv_sub hl [2, 3, 4, 5, 6] rfl)

set_option maxHeartbeats 4000000 in
set_option maxRecDepth 100000 in
theorem law_tune {p : Program} {l : Launch} {e : Env} {s : State} {m : MethodId} {below : List Frame} {meth : Method} {c : Code} {Q : State → Prop} {D : va_G} {cI cZ cJ : ClassId} {A : Nat → Prop} {bs L : Nat} {xs : Nat → Int32} (C : lwC l p s m c D cI cZ cJ A bs L xs) {a b : Nat → Nat} {o : Nat} {f : Nat → Int64} {μ ν : Nat → Int → Int} {H : Heap} {locs : List Loc} {ls : Array Slot} {cells slots : Nat} {i : Int} (hi : 0 ≤ i ∧ i + 5 ≤ (L : Int)) (hc : cells + 5 ≤ 601024 ∧ slots + 30 ≤ 7293034) (h : Rel μ ν) (w : lwW D A s.heap cI cZ cJ a b o f μ ν H locs) (hl : lwL ls bs o a b i) (kk : lwK p l e s m below meth c Q D A cI cZ cJ bs a b o i cells slots) : W p l e room_1 s m #[Value.ref bs] below meth c H locs cells slots Q (F0 m 216 ls []) := by
  obtain ⟨hfl, M, hA, hT, hX, hbl, hbA, hL⟩ := C
  have hl : lv_has ls 7 [(4, .int (iI i)), (0, .ref bs), (1, .ref (a 0)), (2, .ref (b 0)), (3, .ref o)] := hl
  have w : wW D A s.heap (WL cI cJ a o f μ ++ WMod cI cZ b ν) H locs := w
  obtain ⟨k, bz, f2, μ2, ν2, hLc, hCi, hk0, hko, hR, hkr, hpb⟩ := s_tune l hfl D cI cZ cJ a b o f μ ν (xZ xs (i + 1)) (xZ xs (i + 2)) (xZ_r xs (i + 1)) (xZ_r xs (i + 2)) h
  refine q_aln M dL_law_216 (lv_at hl 2 rfl) ?_
  refine q_aln M dL_law_217 (lv_at hl 1 rfl) ?_
  refine q_il M dL_law_218 (lv_at hl 0 rfl) ?_
  refine q_ic M dL_law_220 ?_
  refine q_add M dL_law_221 ?_
  refine q_sld (z := i + 1) M w hX hbl hbA hL (by omega) dL_law_222 ?_
  refine q_aln M dL_law_223 (lv_at hl 1 rfl) ?_
  refine q_il M dL_law_224 (lv_at hl 0 rfl) ?_
  refine q_ic M dL_law_226 ?_
  refine q_add M dL_law_227 ?_
  refine q_sld (z := i + 2) M w hX hbl hbA hL (by omega) dL_law_228 ?_
  refine q_aln M dL_law_229 (lv_at hl 4 rfl) ?_
  refine qc_L (As := [.ref (a 0), .int (iI (xZ xs (i + 1))), .int (iI (xZ xs (i + 2))), .ref o]) (rest := []) (wc := WL cI cJ a o f μ) (wc2 := WL cI cJ a o f2 μ2) (ws2 := WL cI cJ a o f2 μ2 ++ WMod cI cZ b ν) M w hA hT hl hLc gL_law_L_tune rfl ⟨by decide, by decide⟩ ⟨by show cells + 2 ≤ 601024; omega, by show slots + 12 ≤ 7293034; omega⟩ 4 (by decide +kernel) rfl [true, true, true, true, true, true, true, true, true, true, true, true, true, true, true, true, true, true, true, true, true, true, true, true, true, true, true, true, true, true, true, true, true, true, true, true, true, true, true, true, true, true, true, true, true, true, true, true, true, true, true] rfl rfl rfl (Nat.le_of_ble_eq_true rfl) rfl dL_law_230 (fun H locs w => ?_)
  refine q_is (lv' := [(5, .int (iI k)), (4, .int (iI i)), (0, .ref bs), (1, .ref (a 0)), (2, .ref (b 0)), (3, .ref o)]) M dL_law_233 hl (by decide) rfl (fun ls hl => ?_)
  refine q_aln M dL_law_235 (lv_at hl 4 rfl) ?_
  refine q_aln M dL_law_236 (lv_at hl 2 rfl) ?_
  refine q_il M dL_law_237 (lv_at hl 1 rfl) ?_
  refine q_ic M dL_law_239 ?_
  refine q_add M dL_law_240 ?_
  refine q_sld (z := i + 1) M w hX hbl hbA hL (by omega) dL_law_241 ?_
  refine q_aln M dL_law_242 (lv_at hl 2 rfl) ?_
  refine q_il M dL_law_243 (lv_at hl 1 rfl) ?_
  refine q_ic M dL_law_245 ?_
  refine q_add M dL_law_246 ?_
  refine q_sld (z := i + 2) M w hX hbl hbA hL (by omega) dL_law_247 ?_
  refine qc_iV (As := [.int (iI (xZ xs (i + 1))), .int (iI (xZ xs (i + 2)))]) (rest := []) (wc := WMod cI cZ b ν) (wc2 := WMod cI cZ b ν2) (ws2 := WL cI cJ a o f2 μ2 ++ WMod cI cZ b ν2) M w hA hl hCi gL_law_X7_tune rfl ⟨rfl, rfl, by decide, by decide⟩ ⟨by show cells + 2 ≤ 601024; omega, by show slots + 12 ≤ 7293034; omega⟩ 2 ⟨rfl, by decide +kernel⟩ rfl [false, false, false, false, false, false, false, false, false, false, false, false, false, false, false, false, false, false, false, false, false, false, false, false, false, false, false, false, false, false, false, false, false, false, false, false, false, false, false, false, false, false, false, false, false, false, false, false, false, false, false, true, true, true, true, true, true, true, true, true, true, true, true, true, true, true, true, true, true, true, true, true] rfl rfl 51 rfl rfl rfl (Nat.le_of_ble_eq_true rfl) rfl dL_law_248 (fun H locs w => ?_)
  refine q_is (lv' := [(6, .int (iI bz)), (5, .int (iI k)), (4, .int (iI i)), (0, .ref bs), (1, .ref (a 0)), (2, .ref (b 0)), (3, .ref o)]) M dL_law_251 hl (by decide) rfl (fun ls hl => ?_)
  refine q_aln M dL_law_253 (lv_at hl 5 rfl) ?_
  refine qc_iV (As := []) (rest := []) (wc := WMod cI cZ b ν2) (wc2 := WMod cI cZ b ν2) (ws2 := WL cI cJ a o f2 μ2 ++ WMod cI cZ b ν2) M w hA hl (m_thrown l D cI cZ cJ b ν2) gL_law_X7_thrown rfl ⟨rfl, rfl, by decide, by decide⟩ ⟨by show cells + 2 ≤ 601024; omega, by show slots + 12 ≤ 7293034; omega⟩ 0 ⟨rfl, by decide +kernel⟩ rfl [false, false, false, false, false, false, false, false, false, false, false, false, false, false, false, false, false, false, false, false, false, false, false, false, false, false, false, false, false, false, false, false, false, false, false, false, false, false, false, false, false, false, false, false, false, false, false, false, false, false, false, true, true, true, true, true, true, true, true, true, true, true, true, true, true, true, true, true, true, true, true, true] rfl rfl 51 rfl rfl rfl (Nat.le_of_ble_eq_true rfl) rfl dL_law_254 (fun H locs w => ?_)
  refine q_il M dL_law_257 (lv_at hl 1 rfl) ?_
  refine q_eqE (tgt := 264) M (by rw [hk0]) dL_law_259 (by decide) ?_
  refine q_il M dL_law_264 (lv_at hl 1 rfl) ?_
  refine q_if_ne (tgt := 281) M dL_law_266 (by decide) (by omega) (fun c2 => ?_) (fun c2 => ?_)
  · refine q_go (tgt := 1468) M dL_law_281 (by decide) ?_
    exact kk f2 μ2 ν2 H locs ls _ _ (by show cells + 2 ≤ cells + 5; omega) (by show slots + 12 ≤ slots + 30; omega) hR w (lv_sub hl [2, 3, 4, 5, 6] rfl)
  · refine q_aln M dL_law_269 (lv_at hl 6 rfl) ?_
    refine q_ic M dL_law_270 ?_
    refine q_lald0 (f := f2) M w 0 2 rfl rfl dL_law_271 ?_
    refine q_il M dL_law_272 (lv_at hl 0 rfl) ?_
    refine q_i2l M dL_law_274 ?_
    refine q_lcmpE M (hko c2) dL_law_275 ?_
    refine q_if_eq (tgt := 281) M dL_law_276 (by decide) (by omega) (fun c3 => ?_) (fun c3 => absurd rfl c3)
    refine q_go (tgt := 1468) M dL_law_281 (by decide) ?_
    exact kk f2 μ2 ν2 H locs ls _ _ (by show cells + 2 ≤ cells + 5; omega) (by show slots + 12 ≤ slots + 30; omega) hR w (lv_sub hl [2, 3, 4, 5, 6] rfl)

set_option maxHeartbeats 4000000 in
set_option maxRecDepth 100000 in
theorem law_setStep {p : Program} {l : Launch} {e : Env} {s : State} {m : MethodId} {below : List Frame} {meth : Method} {c : Code} {Q : State → Prop} {D : va_G} {cI cZ cJ : ClassId} {A : Nat → Prop} {bs L : Nat} {xs : Nat → Int32} (C : lwC l p s m c D cI cZ cJ A bs L xs) {a b : Nat → Nat} {o : Nat} {f : Nat → Int64} {μ ν : Nat → Int → Int} {H : Heap} {locs : List Loc} {ls : Array Slot} {cells slots : Nat} {i : Int} (hi : 0 ≤ i ∧ i + 5 ≤ (L : Int)) (hc : cells + 5 ≤ 601024 ∧ slots + 30 ≤ 7293034) (h : Rel μ ν) (w : lwW D A s.heap cI cZ cJ a b o f μ ν H locs) (hl : lwL ls bs o a b i) (kk : lwK p l e s m below meth c Q D A cI cZ cJ bs a b o i cells slots) : W p l e room_1 s m #[Value.ref bs] below meth c H locs cells slots Q (F0 m 284 ls []) := by
  obtain ⟨hfl, M, hA, hT, hX, hbl, hbA, hL⟩ := C
  have hl : lv_has ls 7 [(4, .int (iI i)), (0, .ref bs), (1, .ref (a 0)), (2, .ref (b 0)), (3, .ref o)] := hl
  have w : wW D A s.heap (WL cI cJ a o f μ ++ WMod cI cZ b ν) H locs := w
  obtain ⟨k, bz, f2, μ2, ν2, hLc, hCi, hk0, hko, hR, hkr, hpb⟩ := s_setStep l hfl D cI cZ cJ a b o f μ ν (xZ xs (i + 1)) (xZ xs (i + 2)) (xZ xs (i + 3)) (xZ xs (i + 4)) (xZ_r xs (i + 1)) (xZ_r xs (i + 2)) (xZ_r xs (i + 3)) (xZ_r xs (i + 4)) h
  refine q_aln M dL_law_284 (lv_at hl 2 rfl) ?_
  refine q_aln M dL_law_285 (lv_at hl 1 rfl) ?_
  refine q_il M dL_law_286 (lv_at hl 0 rfl) ?_
  refine q_ic M dL_law_288 ?_
  refine q_add M dL_law_289 ?_
  refine q_sld (z := i + 1) M w hX hbl hbA hL (by omega) dL_law_290 ?_
  refine q_aln M dL_law_291 (lv_at hl 1 rfl) ?_
  refine q_il M dL_law_292 (lv_at hl 0 rfl) ?_
  refine q_ic M dL_law_294 ?_
  refine q_add M dL_law_295 ?_
  refine q_sld (z := i + 2) M w hX hbl hbA hL (by omega) dL_law_296 ?_
  refine q_aln M dL_law_297 (lv_at hl 1 rfl) ?_
  refine q_il M dL_law_298 (lv_at hl 0 rfl) ?_
  refine q_ic M dL_law_300 ?_
  refine q_add M dL_law_301 ?_
  refine q_sld (z := i + 3) M w hX hbl hbA hL (by omega) dL_law_302 ?_
  refine q_aln M dL_law_303 (lv_at hl 1 rfl) ?_
  refine q_il M dL_law_304 (lv_at hl 0 rfl) ?_
  refine q_ic M dL_law_306 ?_
  refine q_add M dL_law_307 ?_
  refine q_sld (z := i + 4) M w hX hbl hbA hL (by omega) dL_law_308 ?_
  refine q_aln M dL_law_309 (lv_at hl 4 rfl) ?_
  refine qc_L (As := [.ref (a 0), .int (iI (xZ xs (i + 1))), .int (iI (xZ xs (i + 2))), .int (iI (xZ xs (i + 3))), .int (iI (xZ xs (i + 4))), .ref o]) (rest := []) (wc := WL cI cJ a o f μ) (wc2 := WL cI cJ a o f2 μ2) (ws2 := WL cI cJ a o f2 μ2 ++ WMod cI cZ b ν) M w hA hT hl hLc gL_law_L_setStep rfl ⟨by decide, by decide⟩ ⟨by show cells + 5 ≤ 601024; omega, by show slots + 30 ≤ 7293034; omega⟩ 6 (by decide +kernel) rfl [true, true, true, true, true, true, true, true, true, true, true, true, true, true, true, true, true, true, true, true, true, true, true, true, true, true, true, true, true, true, true, true, true, true, true, true, true, true, true, true, true, true, true, true, true, true, true, true, true, true, true] rfl rfl rfl (Nat.le_of_ble_eq_true rfl) rfl dL_law_310 (fun H locs w => ?_)
  refine q_is (lv' := [(5, .int (iI k)), (4, .int (iI i)), (0, .ref bs), (1, .ref (a 0)), (2, .ref (b 0)), (3, .ref o)]) M dL_law_313 hl (by decide) rfl (fun ls hl => ?_)
  refine q_aln M dL_law_315 (lv_at hl 4 rfl) ?_
  refine q_aln M dL_law_316 (lv_at hl 2 rfl) ?_
  refine q_il M dL_law_317 (lv_at hl 1 rfl) ?_
  refine q_ic M dL_law_319 ?_
  refine q_add M dL_law_320 ?_
  refine q_sld (z := i + 1) M w hX hbl hbA hL (by omega) dL_law_321 ?_
  refine q_aln M dL_law_322 (lv_at hl 2 rfl) ?_
  refine q_il M dL_law_323 (lv_at hl 1 rfl) ?_
  refine q_ic M dL_law_325 ?_
  refine q_add M dL_law_326 ?_
  refine q_sld (z := i + 2) M w hX hbl hbA hL (by omega) dL_law_327 ?_
  refine q_aln M dL_law_328 (lv_at hl 2 rfl) ?_
  refine q_il M dL_law_329 (lv_at hl 1 rfl) ?_
  refine q_ic M dL_law_331 ?_
  refine q_add M dL_law_332 ?_
  refine q_sld (z := i + 3) M w hX hbl hbA hL (by omega) dL_law_333 ?_
  refine q_aln M dL_law_334 (lv_at hl 2 rfl) ?_
  refine q_il M dL_law_335 (lv_at hl 1 rfl) ?_
  refine q_ic M dL_law_337 ?_
  refine q_add M dL_law_338 ?_
  refine q_sld (z := i + 4) M w hX hbl hbA hL (by omega) dL_law_339 ?_
  refine qc_iV (As := [.int (iI (xZ xs (i + 1))), .int (iI (xZ xs (i + 2))), .int (iI (xZ xs (i + 3))), .int (iI (xZ xs (i + 4)))]) (rest := []) (wc := WMod cI cZ b ν) (wc2 := WMod cI cZ b ν2) (ws2 := WL cI cJ a o f2 μ2 ++ WMod cI cZ b ν2) M w hA hl hCi gL_law_X7_setStep rfl ⟨rfl, rfl, by decide, by decide⟩ ⟨by show cells + 5 ≤ 601024; omega, by show slots + 30 ≤ 7293034; omega⟩ 4 ⟨rfl, by decide +kernel⟩ rfl [false, false, false, false, false, false, false, false, false, false, false, false, false, false, false, false, false, false, false, false, false, false, false, false, false, false, false, false, false, false, false, false, false, false, false, false, false, false, false, false, false, false, false, false, false, false, false, false, false, false, false, true, true, true, true, true, true, true, true, true, true, true, true, true, true, true, true, true, true, true, true, true] rfl rfl 51 rfl rfl rfl (Nat.le_of_ble_eq_true rfl) rfl dL_law_340 (fun H locs w => ?_)
  refine q_is (lv' := [(6, .int (iI bz)), (5, .int (iI k)), (4, .int (iI i)), (0, .ref bs), (1, .ref (a 0)), (2, .ref (b 0)), (3, .ref o)]) M dL_law_343 hl (by decide) rfl (fun ls hl => ?_)
  refine q_aln M dL_law_345 (lv_at hl 5 rfl) ?_
  refine qc_iV (As := []) (rest := []) (wc := WMod cI cZ b ν2) (wc2 := WMod cI cZ b ν2) (ws2 := WL cI cJ a o f2 μ2 ++ WMod cI cZ b ν2) M w hA hl (m_thrown l D cI cZ cJ b ν2) gL_law_X7_thrown rfl ⟨rfl, rfl, by decide, by decide⟩ ⟨by show cells + 5 ≤ 601024; omega, by show slots + 30 ≤ 7293034; omega⟩ 0 ⟨rfl, by decide +kernel⟩ rfl [false, false, false, false, false, false, false, false, false, false, false, false, false, false, false, false, false, false, false, false, false, false, false, false, false, false, false, false, false, false, false, false, false, false, false, false, false, false, false, false, false, false, false, false, false, false, false, false, false, false, false, true, true, true, true, true, true, true, true, true, true, true, true, true, true, true, true, true, true, true, true, true] rfl rfl 51 rfl rfl rfl (Nat.le_of_ble_eq_true rfl) rfl dL_law_346 (fun H locs w => ?_)
  refine q_il M dL_law_349 (lv_at hl 1 rfl) ?_
  refine q_eqE (tgt := 356) M (by rw [hk0]) dL_law_351 (by decide) ?_
  refine q_il M dL_law_356 (lv_at hl 1 rfl) ?_
  refine q_if_ne (tgt := 373) M dL_law_358 (by decide) (by omega) (fun c2 => ?_) (fun c2 => ?_)
  · refine q_go (tgt := 1468) M dL_law_373 (by decide) ?_
    exact kk f2 μ2 ν2 H locs ls _ _ (by show cells + 5 ≤ cells + 5; omega) (by show slots + 30 ≤ slots + 30; omega) hR w (lv_sub hl [2, 3, 4, 5, 6] rfl)
  · refine q_aln M dL_law_361 (lv_at hl 6 rfl) ?_
    refine q_ic M dL_law_362 ?_
    refine q_lald0 (f := f2) M w 0 2 rfl rfl dL_law_363 ?_
    refine q_il M dL_law_364 (lv_at hl 0 rfl) ?_
    refine q_i2l M dL_law_366 ?_
    refine q_lcmpE M (hko c2) dL_law_367 ?_
    refine q_if_eq (tgt := 373) M dL_law_368 (by decide) (by omega) (fun c3 => ?_) (fun c3 => absurd rfl c3)
    refine q_go (tgt := 1468) M dL_law_373 (by decide) ?_
    exact kk f2 μ2 ν2 H locs ls _ _ (by show cells + 5 ≤ cells + 5; omega) (by show slots + 30 ≤ slots + 30; omega) hR w (lv_sub hl [2, 3, 4, 5, 6] rfl)

set_option maxHeartbeats 4000000 in
set_option maxRecDepth 100000 in
theorem law_setFill {p : Program} {l : Launch} {e : Env} {s : State} {m : MethodId} {below : List Frame} {meth : Method} {c : Code} {Q : State → Prop} {D : va_G} {cI cZ cJ : ClassId} {A : Nat → Prop} {bs L : Nat} {xs : Nat → Int32} (C : lwC l p s m c D cI cZ cJ A bs L xs) {a b : Nat → Nat} {o : Nat} {f : Nat → Int64} {μ ν : Nat → Int → Int} {H : Heap} {locs : List Loc} {ls : Array Slot} {cells slots : Nat} {i : Int} (hi : 0 ≤ i ∧ i + 5 ≤ (L : Int)) (hc : cells + 5 ≤ 601024 ∧ slots + 30 ≤ 7293034) (h : Rel μ ν) (w : lwW D A s.heap cI cZ cJ a b o f μ ν H locs) (hl : lwL ls bs o a b i) (kk : lwK p l e s m below meth c Q D A cI cZ cJ bs a b o i cells slots) : W p l e room_1 s m #[Value.ref bs] below meth c H locs cells slots Q (F0 m 376 ls []) := by
  obtain ⟨hfl, M, hA, hT, hX, hbl, hbA, hL⟩ := C
  have hl : lv_has ls 7 [(4, .int (iI i)), (0, .ref bs), (1, .ref (a 0)), (2, .ref (b 0)), (3, .ref o)] := hl
  have w : wW D A s.heap (WL cI cJ a o f μ ++ WMod cI cZ b ν) H locs := w
  obtain ⟨k, bz, f2, μ2, ν2, hLc, hCi, hk0, hko, hR, hkr, hpb⟩ := s_setFill l hfl D cI cZ cJ a b o f μ ν (xZ xs (i + 1)) (xZ xs (i + 2)) (xZ xs (i + 3)) (xZ xs (i + 4)) (xZ_r xs (i + 1)) (xZ_r xs (i + 2)) (xZ_r xs (i + 3)) (xZ_r xs (i + 4)) h
  refine q_aln M dL_law_376 (lv_at hl 2 rfl) ?_
  refine q_aln M dL_law_377 (lv_at hl 1 rfl) ?_
  refine q_il M dL_law_378 (lv_at hl 0 rfl) ?_
  refine q_ic M dL_law_380 ?_
  refine q_add M dL_law_381 ?_
  refine q_sld (z := i + 1) M w hX hbl hbA hL (by omega) dL_law_382 ?_
  refine q_aln M dL_law_383 (lv_at hl 1 rfl) ?_
  refine q_il M dL_law_384 (lv_at hl 0 rfl) ?_
  refine q_ic M dL_law_386 ?_
  refine q_add M dL_law_387 ?_
  refine q_sld (z := i + 2) M w hX hbl hbA hL (by omega) dL_law_388 ?_
  refine q_aln M dL_law_389 (lv_at hl 1 rfl) ?_
  refine q_il M dL_law_390 (lv_at hl 0 rfl) ?_
  refine q_ic M dL_law_392 ?_
  refine q_add M dL_law_393 ?_
  refine q_sld (z := i + 3) M w hX hbl hbA hL (by omega) dL_law_394 ?_
  refine q_aln M dL_law_395 (lv_at hl 1 rfl) ?_
  refine q_il M dL_law_396 (lv_at hl 0 rfl) ?_
  refine q_ic M dL_law_398 ?_
  refine q_add M dL_law_399 ?_
  refine q_sld (z := i + 4) M w hX hbl hbA hL (by omega) dL_law_400 ?_
  refine q_aln M dL_law_401 (lv_at hl 4 rfl) ?_
  refine qc_L (As := [.ref (a 0), .int (iI (xZ xs (i + 1))), .int (iI (xZ xs (i + 2))), .int (iI (xZ xs (i + 3))), .int (iI (xZ xs (i + 4))), .ref o]) (rest := []) (wc := WL cI cJ a o f μ) (wc2 := WL cI cJ a o f2 μ2) (ws2 := WL cI cJ a o f2 μ2 ++ WMod cI cZ b ν) M w hA hT hl hLc gL_law_L_setFill rfl ⟨by decide, by decide⟩ ⟨by show cells + 5 ≤ 601024; omega, by show slots + 30 ≤ 7293034; omega⟩ 6 (by decide +kernel) rfl [true, true, true, true, true, true, true, true, true, true, true, true, true, true, true, true, true, true, true, true, true, true, true, true, true, true, true, true, true, true, true, true, true, true, true, true, true, true, true, true, true, true, true, true, true, true, true, true, true, true, true] rfl rfl rfl (Nat.le_of_ble_eq_true rfl) rfl dL_law_402 (fun H locs w => ?_)
  refine q_is (lv' := [(5, .int (iI k)), (4, .int (iI i)), (0, .ref bs), (1, .ref (a 0)), (2, .ref (b 0)), (3, .ref o)]) M dL_law_405 hl (by decide) rfl (fun ls hl => ?_)
  refine q_aln M dL_law_407 (lv_at hl 4 rfl) ?_
  refine q_aln M dL_law_408 (lv_at hl 2 rfl) ?_
  refine q_il M dL_law_409 (lv_at hl 1 rfl) ?_
  refine q_ic M dL_law_411 ?_
  refine q_add M dL_law_412 ?_
  refine q_sld (z := i + 1) M w hX hbl hbA hL (by omega) dL_law_413 ?_
  refine q_aln M dL_law_414 (lv_at hl 2 rfl) ?_
  refine q_il M dL_law_415 (lv_at hl 1 rfl) ?_
  refine q_ic M dL_law_417 ?_
  refine q_add M dL_law_418 ?_
  refine q_sld (z := i + 2) M w hX hbl hbA hL (by omega) dL_law_419 ?_
  refine q_aln M dL_law_420 (lv_at hl 2 rfl) ?_
  refine q_il M dL_law_421 (lv_at hl 1 rfl) ?_
  refine q_ic M dL_law_423 ?_
  refine q_add M dL_law_424 ?_
  refine q_sld (z := i + 3) M w hX hbl hbA hL (by omega) dL_law_425 ?_
  refine q_aln M dL_law_426 (lv_at hl 2 rfl) ?_
  refine q_il M dL_law_427 (lv_at hl 1 rfl) ?_
  refine q_ic M dL_law_429 ?_
  refine q_add M dL_law_430 ?_
  refine q_sld (z := i + 4) M w hX hbl hbA hL (by omega) dL_law_431 ?_
  refine qc_iV (As := [.int (iI (xZ xs (i + 1))), .int (iI (xZ xs (i + 2))), .int (iI (xZ xs (i + 3))), .int (iI (xZ xs (i + 4)))]) (rest := []) (wc := WMod cI cZ b ν) (wc2 := WMod cI cZ b ν2) (ws2 := WL cI cJ a o f2 μ2 ++ WMod cI cZ b ν2) M w hA hl hCi gL_law_X7_setFill rfl ⟨rfl, rfl, by decide, by decide⟩ ⟨by show cells + 5 ≤ 601024; omega, by show slots + 30 ≤ 7293034; omega⟩ 4 ⟨rfl, by decide +kernel⟩ rfl [false, false, false, false, false, false, false, false, false, false, false, false, false, false, false, false, false, false, false, false, false, false, false, false, false, false, false, false, false, false, false, false, false, false, false, false, false, false, false, false, false, false, false, false, false, false, false, false, false, false, false, true, true, true, true, true, true, true, true, true, true, true, true, true, true, true, true, true, true, true, true, true] rfl rfl 51 rfl rfl rfl (Nat.le_of_ble_eq_true rfl) rfl dL_law_432 (fun H locs w => ?_)
  refine q_is (lv' := [(6, .int (iI bz)), (5, .int (iI k)), (4, .int (iI i)), (0, .ref bs), (1, .ref (a 0)), (2, .ref (b 0)), (3, .ref o)]) M dL_law_435 hl (by decide) rfl (fun ls hl => ?_)
  refine q_aln M dL_law_437 (lv_at hl 5 rfl) ?_
  refine qc_iV (As := []) (rest := []) (wc := WMod cI cZ b ν2) (wc2 := WMod cI cZ b ν2) (ws2 := WL cI cJ a o f2 μ2 ++ WMod cI cZ b ν2) M w hA hl (m_thrown l D cI cZ cJ b ν2) gL_law_X7_thrown rfl ⟨rfl, rfl, by decide, by decide⟩ ⟨by show cells + 5 ≤ 601024; omega, by show slots + 30 ≤ 7293034; omega⟩ 0 ⟨rfl, by decide +kernel⟩ rfl [false, false, false, false, false, false, false, false, false, false, false, false, false, false, false, false, false, false, false, false, false, false, false, false, false, false, false, false, false, false, false, false, false, false, false, false, false, false, false, false, false, false, false, false, false, false, false, false, false, false, false, true, true, true, true, true, true, true, true, true, true, true, true, true, true, true, true, true, true, true, true, true] rfl rfl 51 rfl rfl rfl (Nat.le_of_ble_eq_true rfl) rfl dL_law_438 (fun H locs w => ?_)
  refine q_il M dL_law_441 (lv_at hl 1 rfl) ?_
  refine q_eqE (tgt := 448) M (by rw [hk0]) dL_law_443 (by decide) ?_
  refine q_il M dL_law_448 (lv_at hl 1 rfl) ?_
  refine q_if_ne (tgt := 465) M dL_law_450 (by decide) (by omega) (fun c2 => ?_) (fun c2 => ?_)
  · refine q_go (tgt := 1468) M dL_law_465 (by decide) ?_
    exact kk f2 μ2 ν2 H locs ls _ _ (by show cells + 5 ≤ cells + 5; omega) (by show slots + 30 ≤ slots + 30; omega) hR w (lv_sub hl [2, 3, 4, 5, 6] rfl)
  · refine q_aln M dL_law_453 (lv_at hl 6 rfl) ?_
    refine q_ic M dL_law_454 ?_
    refine q_lald0 (f := f2) M w 0 2 rfl rfl dL_law_455 ?_
    refine q_il M dL_law_456 (lv_at hl 0 rfl) ?_
    refine q_i2l M dL_law_458 ?_
    refine q_lcmpE M (hko c2) dL_law_459 ?_
    refine q_if_eq (tgt := 465) M dL_law_460 (by decide) (by omega) (fun c3 => ?_) (fun c3 => absurd rfl c3)
    refine q_go (tgt := 1468) M dL_law_465 (by decide) ?_
    exact kk f2 μ2 ν2 H locs ls _ _ (by show cells + 5 ≤ cells + 5; omega) (by show slots + 30 ≤ slots + 30; omega) hR w (lv_sub hl [2, 3, 4, 5, 6] rfl)

set_option maxHeartbeats 4000000 in
set_option maxRecDepth 100000 in
theorem law_setFeel {p : Program} {l : Launch} {e : Env} {s : State} {m : MethodId} {below : List Frame} {meth : Method} {c : Code} {Q : State → Prop} {D : va_G} {cI cZ cJ : ClassId} {A : Nat → Prop} {bs L : Nat} {xs : Nat → Int32} (C : lwC l p s m c D cI cZ cJ A bs L xs) {a b : Nat → Nat} {o : Nat} {f : Nat → Int64} {μ ν : Nat → Int → Int} {H : Heap} {locs : List Loc} {ls : Array Slot} {cells slots : Nat} {i : Int} (hi : 0 ≤ i ∧ i + 5 ≤ (L : Int)) (hc : cells + 5 ≤ 601024 ∧ slots + 30 ≤ 7293034) (h : Rel μ ν) (w : lwW D A s.heap cI cZ cJ a b o f μ ν H locs) (hl : lwL ls bs o a b i) (kk : lwK p l e s m below meth c Q D A cI cZ cJ bs a b o i cells slots) : W p l e room_1 s m #[Value.ref bs] below meth c H locs cells slots Q (F0 m 468 ls []) := by
  obtain ⟨hfl, M, hA, hT, hX, hbl, hbA, hL⟩ := C
  have hl : lv_has ls 7 [(4, .int (iI i)), (0, .ref bs), (1, .ref (a 0)), (2, .ref (b 0)), (3, .ref o)] := hl
  have w : wW D A s.heap (WL cI cJ a o f μ ++ WMod cI cZ b ν) H locs := w
  obtain ⟨k, bz, f2, μ2, ν2, hLc, hCi, hk0, hko, hR, hkr, hpb⟩ := s_setFeel l hfl D cI cZ cJ a b o f μ ν (xZ xs (i + 1)) (xZ xs (i + 2)) (xZ xs (i + 3)) (xZ_r xs (i + 1)) (xZ_r xs (i + 2)) (xZ_r xs (i + 3)) h
  refine q_aln M dL_law_468 (lv_at hl 2 rfl) ?_
  refine q_aln M dL_law_469 (lv_at hl 1 rfl) ?_
  refine q_il M dL_law_470 (lv_at hl 0 rfl) ?_
  refine q_ic M dL_law_472 ?_
  refine q_add M dL_law_473 ?_
  refine q_sld (z := i + 1) M w hX hbl hbA hL (by omega) dL_law_474 ?_
  refine q_aln M dL_law_475 (lv_at hl 1 rfl) ?_
  refine q_il M dL_law_476 (lv_at hl 0 rfl) ?_
  refine q_ic M dL_law_478 ?_
  refine q_add M dL_law_479 ?_
  refine q_sld (z := i + 2) M w hX hbl hbA hL (by omega) dL_law_480 ?_
  refine q_aln M dL_law_481 (lv_at hl 1 rfl) ?_
  refine q_il M dL_law_482 (lv_at hl 0 rfl) ?_
  refine q_ic M dL_law_484 ?_
  refine q_add M dL_law_485 ?_
  refine q_sld (z := i + 3) M w hX hbl hbA hL (by omega) dL_law_486 ?_
  refine q_aln M dL_law_487 (lv_at hl 4 rfl) ?_
  refine qc_L (As := [.ref (a 0), .int (iI (xZ xs (i + 1))), .int (iI (xZ xs (i + 2))), .int (iI (xZ xs (i + 3))), .ref o]) (rest := []) (wc := WL cI cJ a o f μ) (wc2 := WL cI cJ a o f2 μ2) (ws2 := WL cI cJ a o f2 μ2 ++ WMod cI cZ b ν) M w hA hT hl hLc gL_law_L_setFeel rfl ⟨by decide, by decide⟩ ⟨by show cells + 4 ≤ 601024; omega, by show slots + 24 ≤ 7293034; omega⟩ 5 (by decide +kernel) rfl [true, true, true, true, true, true, true, true, true, true, true, true, true, true, true, true, true, true, true, true, true, true, true, true, true, true, true, true, true, true, true, true, true, true, true, true, true, true, true, true, true, true, true, true, true, true, true, true, true, true, true] rfl rfl rfl (Nat.le_of_ble_eq_true rfl) rfl dL_law_488 (fun H locs w => ?_)
  refine q_is (lv' := [(5, .int (iI k)), (4, .int (iI i)), (0, .ref bs), (1, .ref (a 0)), (2, .ref (b 0)), (3, .ref o)]) M dL_law_491 hl (by decide) rfl (fun ls hl => ?_)
  refine q_aln M dL_law_493 (lv_at hl 4 rfl) ?_
  refine q_aln M dL_law_494 (lv_at hl 2 rfl) ?_
  refine q_il M dL_law_495 (lv_at hl 1 rfl) ?_
  refine q_ic M dL_law_497 ?_
  refine q_add M dL_law_498 ?_
  refine q_sld (z := i + 1) M w hX hbl hbA hL (by omega) dL_law_499 ?_
  refine q_aln M dL_law_500 (lv_at hl 2 rfl) ?_
  refine q_il M dL_law_501 (lv_at hl 1 rfl) ?_
  refine q_ic M dL_law_503 ?_
  refine q_add M dL_law_504 ?_
  refine q_sld (z := i + 2) M w hX hbl hbA hL (by omega) dL_law_505 ?_
  refine q_aln M dL_law_506 (lv_at hl 2 rfl) ?_
  refine q_il M dL_law_507 (lv_at hl 1 rfl) ?_
  refine q_ic M dL_law_509 ?_
  refine q_add M dL_law_510 ?_
  refine q_sld (z := i + 3) M w hX hbl hbA hL (by omega) dL_law_511 ?_
  refine qc_iV (As := [.int (iI (xZ xs (i + 1))), .int (iI (xZ xs (i + 2))), .int (iI (xZ xs (i + 3)))]) (rest := []) (wc := WMod cI cZ b ν) (wc2 := WMod cI cZ b ν2) (ws2 := WL cI cJ a o f2 μ2 ++ WMod cI cZ b ν2) M w hA hl hCi gL_law_X7_setFeel rfl ⟨rfl, rfl, by decide, by decide⟩ ⟨by show cells + 4 ≤ 601024; omega, by show slots + 24 ≤ 7293034; omega⟩ 3 ⟨rfl, by decide +kernel⟩ rfl [false, false, false, false, false, false, false, false, false, false, false, false, false, false, false, false, false, false, false, false, false, false, false, false, false, false, false, false, false, false, false, false, false, false, false, false, false, false, false, false, false, false, false, false, false, false, false, false, false, false, false, true, true, true, true, true, true, true, true, true, true, true, true, true, true, true, true, true, true, true, true, true] rfl rfl 51 rfl rfl rfl (Nat.le_of_ble_eq_true rfl) rfl dL_law_512 (fun H locs w => ?_)
  refine q_is (lv' := [(6, .int (iI bz)), (5, .int (iI k)), (4, .int (iI i)), (0, .ref bs), (1, .ref (a 0)), (2, .ref (b 0)), (3, .ref o)]) M dL_law_515 hl (by decide) rfl (fun ls hl => ?_)
  refine q_aln M dL_law_517 (lv_at hl 5 rfl) ?_
  refine qc_iV (As := []) (rest := []) (wc := WMod cI cZ b ν2) (wc2 := WMod cI cZ b ν2) (ws2 := WL cI cJ a o f2 μ2 ++ WMod cI cZ b ν2) M w hA hl (m_thrown l D cI cZ cJ b ν2) gL_law_X7_thrown rfl ⟨rfl, rfl, by decide, by decide⟩ ⟨by show cells + 4 ≤ 601024; omega, by show slots + 24 ≤ 7293034; omega⟩ 0 ⟨rfl, by decide +kernel⟩ rfl [false, false, false, false, false, false, false, false, false, false, false, false, false, false, false, false, false, false, false, false, false, false, false, false, false, false, false, false, false, false, false, false, false, false, false, false, false, false, false, false, false, false, false, false, false, false, false, false, false, false, false, true, true, true, true, true, true, true, true, true, true, true, true, true, true, true, true, true, true, true, true, true] rfl rfl 51 rfl rfl rfl (Nat.le_of_ble_eq_true rfl) rfl dL_law_518 (fun H locs w => ?_)
  refine q_il M dL_law_521 (lv_at hl 1 rfl) ?_
  refine q_eqE (tgt := 528) M (by rw [hk0]) dL_law_523 (by decide) ?_
  refine q_il M dL_law_528 (lv_at hl 1 rfl) ?_
  refine q_if_ne (tgt := 545) M dL_law_530 (by decide) (by omega) (fun c2 => ?_) (fun c2 => ?_)
  · refine q_go (tgt := 1468) M dL_law_545 (by decide) ?_
    exact kk f2 μ2 ν2 H locs ls _ _ (by show cells + 4 ≤ cells + 5; omega) (by show slots + 24 ≤ slots + 30; omega) hR w (lv_sub hl [2, 3, 4, 5, 6] rfl)
  · refine q_aln M dL_law_533 (lv_at hl 6 rfl) ?_
    refine q_ic M dL_law_534 ?_
    refine q_lald0 (f := f2) M w 0 2 rfl rfl dL_law_535 ?_
    refine q_il M dL_law_536 (lv_at hl 0 rfl) ?_
    refine q_i2l M dL_law_538 ?_
    refine q_lcmpE M (hko c2) dL_law_539 ?_
    refine q_if_eq (tgt := 545) M dL_law_540 (by decide) (by omega) (fun c3 => ?_) (fun c3 => absurd rfl c3)
    refine q_go (tgt := 1468) M dL_law_545 (by decide) ?_
    exact kk f2 μ2 ν2 H locs ls _ _ (by show cells + 4 ≤ cells + 5; omega) (by show slots + 24 ≤ slots + 30; omega) hR w (lv_sub hl [2, 3, 4, 5, 6] rfl)

set_option maxHeartbeats 4000000 in
set_option maxRecDepth 100000 in
theorem law_freeze {p : Program} {l : Launch} {e : Env} {s : State} {m : MethodId} {below : List Frame} {meth : Method} {c : Code} {Q : State → Prop} {D : va_G} {cI cZ cJ : ClassId} {A : Nat → Prop} {bs L : Nat} {xs : Nat → Int32} (C : lwC l p s m c D cI cZ cJ A bs L xs) {a b : Nat → Nat} {o : Nat} {f : Nat → Int64} {μ ν : Nat → Int → Int} {H : Heap} {locs : List Loc} {ls : Array Slot} {cells slots : Nat} {i : Int} (hi : 0 ≤ i ∧ i + 5 ≤ (L : Int)) (hc : cells + 5 ≤ 601024 ∧ slots + 30 ≤ 7293034) (h : Rel μ ν) (w : lwW D A s.heap cI cZ cJ a b o f μ ν H locs) (hl : lwL ls bs o a b i) (kk : lwK p l e s m below meth c Q D A cI cZ cJ bs a b o i cells slots) : W p l e room_1 s m #[Value.ref bs] below meth c H locs cells slots Q (F0 m 548 ls []) := by
  obtain ⟨hfl, M, hA, hT, hX, hbl, hbA, hL⟩ := C
  have hl : lv_has ls 7 [(4, .int (iI i)), (0, .ref bs), (1, .ref (a 0)), (2, .ref (b 0)), (3, .ref o)] := hl
  have w : wW D A s.heap (WL cI cJ a o f μ ++ WMod cI cZ b ν) H locs := w
  obtain ⟨k, bz, f2, μ2, ν2, hLc, hCi, hk0, hko, hR, hkr, hpb⟩ := s_freeze l hfl D cI cZ cJ a b o f μ ν (xZ xs (i + 1)) (fz (xZ xs (i + 2))) (xZ_r xs (i + 1)) (fz_r (xZ xs (i + 2))).1 (fz_r (xZ xs (i + 2))).2 h
  refine q_aln M dL_law_548 (lv_at hl 2 rfl) ?_
  refine q_aln M dL_law_549 (lv_at hl 1 rfl) ?_
  refine q_il M dL_law_550 (lv_at hl 0 rfl) ?_
  refine q_ic M dL_law_552 ?_
  refine q_add M dL_law_553 ?_
  refine q_sld (z := i + 1) M w hX hbl hbA hL (by omega) dL_law_554 ?_
  refine q_aln M dL_law_555 (lv_at hl 1 rfl) ?_
  refine q_il M dL_law_556 (lv_at hl 0 rfl) ?_
  refine q_ic M dL_law_558 ?_
  refine q_add M dL_law_559 ?_
  refine q_sld (z := i + 2) M w hX hbl hbA hL (by omega) dL_law_560 ?_
  suffices J : W p l e room_1 s m #[Value.ref bs] below meth c H locs (cells) (slots) Q (F0 m 569 ls ([.int (iI (fz (xZ xs (i + 2)))), .int (iI (xZ xs (i + 1))), .ref (a 0)])) by
    refine q_if_eq (tgt := 568) M dL_law_561 (by decide) (xZ_r xs (i + 2)) (fun c1 => ?_) (fun c1 => ?_)
    · refine q_ic M dL_law_568 ?_
      rw [show fz (xZ xs (i + 2)) = 0 from if_pos c1] at J
      exact J
    · refine q_ic M dL_law_564 ?_
      refine q_go (tgt := 569) M dL_law_565 (by decide) ?_
      rw [show fz (xZ xs (i + 2)) = 1 from if_neg c1] at J
      exact J
  refine q_aln M dL_law_569 (lv_at hl 4 rfl) ?_
  refine qc_L (As := [.ref (a 0), .int (iI (xZ xs (i + 1))), .int (iI (fz (xZ xs (i + 2)))), .ref o]) (rest := []) (wc := WL cI cJ a o f μ) (wc2 := WL cI cJ a o f2 μ2) (ws2 := WL cI cJ a o f2 μ2 ++ WMod cI cZ b ν) M w hA hT hl hLc gL_law_L_freeze rfl ⟨by decide, by decide⟩ ⟨by show cells + 1 ≤ 601024; omega, by show slots + 6 ≤ 7293034; omega⟩ 4 (by decide +kernel) rfl [true, true, true, true, true, true, true, true, true, true, true, true, true, true, true, true, true, true, true, true, true, true, true, true, true, true, true, true, true, true, true, true, true, true, true, true, true, true, true, true, true, true, true, true, true, true, true, true, true, true, true] rfl rfl rfl (Nat.le_of_ble_eq_true rfl) rfl dL_law_570 (fun H locs w => ?_)
  refine q_is (lv' := [(5, .int (iI k)), (4, .int (iI i)), (0, .ref bs), (1, .ref (a 0)), (2, .ref (b 0)), (3, .ref o)]) M dL_law_573 hl (by decide) rfl (fun ls hl => ?_)
  refine q_aln M dL_law_575 (lv_at hl 4 rfl) ?_
  refine q_aln M dL_law_576 (lv_at hl 2 rfl) ?_
  refine q_il M dL_law_577 (lv_at hl 1 rfl) ?_
  refine q_ic M dL_law_579 ?_
  refine q_add M dL_law_580 ?_
  refine q_sld (z := i + 1) M w hX hbl hbA hL (by omega) dL_law_581 ?_
  refine q_aln M dL_law_582 (lv_at hl 2 rfl) ?_
  refine q_il M dL_law_583 (lv_at hl 1 rfl) ?_
  refine q_ic M dL_law_585 ?_
  refine q_add M dL_law_586 ?_
  refine q_sld (z := i + 2) M w hX hbl hbA hL (by omega) dL_law_587 ?_
  suffices J : W p l e room_1 s m #[Value.ref bs] below meth c H locs (cells + rmL_freeze.cells) (slots + rmL_freeze.slots) Q (F0 m 596 ls ([.int (iI (fz (xZ xs (i + 2)))), .int (iI (xZ xs (i + 1))), .ref (b 0)])) by
    refine q_if_eq (tgt := 595) M dL_law_588 (by decide) (xZ_r xs (i + 2)) (fun c1 => ?_) (fun c1 => ?_)
    · refine q_ic M dL_law_595 ?_
      rw [show fz (xZ xs (i + 2)) = 0 from if_pos c1] at J
      exact J
    · refine q_ic M dL_law_591 ?_
      refine q_go (tgt := 596) M dL_law_592 (by decide) ?_
      rw [show fz (xZ xs (i + 2)) = 1 from if_neg c1] at J
      exact J
  refine qc_iV (As := [.int (iI (xZ xs (i + 1))), .int (iI (fz (xZ xs (i + 2))))]) (rest := []) (wc := WMod cI cZ b ν) (wc2 := WMod cI cZ b ν2) (ws2 := WL cI cJ a o f2 μ2 ++ WMod cI cZ b ν2) M w hA hl hCi gL_law_X7_freeze rfl ⟨rfl, rfl, by decide, by decide⟩ ⟨by show cells + 1 ≤ 601024; omega, by show slots + 6 ≤ 7293034; omega⟩ 2 ⟨rfl, by decide +kernel⟩ rfl [false, false, false, false, false, false, false, false, false, false, false, false, false, false, false, false, false, false, false, false, false, false, false, false, false, false, false, false, false, false, false, false, false, false, false, false, false, false, false, false, false, false, false, false, false, false, false, false, false, false, false, true, true, true, true, true, true, true, true, true, true, true, true, true, true, true, true, true, true, true, true, true] rfl rfl 51 rfl rfl rfl (Nat.le_of_ble_eq_true rfl) rfl dL_law_596 (fun H locs w => ?_)
  refine q_is (lv' := [(6, .int (iI bz)), (5, .int (iI k)), (4, .int (iI i)), (0, .ref bs), (1, .ref (a 0)), (2, .ref (b 0)), (3, .ref o)]) M dL_law_599 hl (by decide) rfl (fun ls hl => ?_)
  refine q_aln M dL_law_601 (lv_at hl 5 rfl) ?_
  refine qc_iV (As := []) (rest := []) (wc := WMod cI cZ b ν2) (wc2 := WMod cI cZ b ν2) (ws2 := WL cI cJ a o f2 μ2 ++ WMod cI cZ b ν2) M w hA hl (m_thrown l D cI cZ cJ b ν2) gL_law_X7_thrown rfl ⟨rfl, rfl, by decide, by decide⟩ ⟨by show cells + 1 ≤ 601024; omega, by show slots + 6 ≤ 7293034; omega⟩ 0 ⟨rfl, by decide +kernel⟩ rfl [false, false, false, false, false, false, false, false, false, false, false, false, false, false, false, false, false, false, false, false, false, false, false, false, false, false, false, false, false, false, false, false, false, false, false, false, false, false, false, false, false, false, false, false, false, false, false, false, false, false, false, true, true, true, true, true, true, true, true, true, true, true, true, true, true, true, true, true, true, true, true, true] rfl rfl 51 rfl rfl rfl (Nat.le_of_ble_eq_true rfl) rfl dL_law_602 (fun H locs w => ?_)
  refine q_il M dL_law_605 (lv_at hl 1 rfl) ?_
  refine q_eqE (tgt := 612) M (by rw [hk0]) dL_law_607 (by decide) ?_
  refine q_il M dL_law_612 (lv_at hl 1 rfl) ?_
  refine q_if_ne (tgt := 636) M dL_law_614 (by decide) (by omega) (fun c2 => ?_) (fun c2 => ?_)
  · refine q_go (tgt := 1468) M dL_law_636 (by decide) ?_
    exact kk f2 μ2 ν2 H locs ls _ _ (by show cells + 1 ≤ cells + 5; omega) (by show slots + 6 ≤ slots + 30; omega) hR w (lv_sub hl [2, 3, 4, 5, 6] rfl)
  · refine q_aln M dL_law_617 (lv_at hl 6 rfl) ?_
    refine q_ic M dL_law_618 ?_
    refine q_lald0 (f := f2) M w 0 2 rfl rfl dL_law_619 ?_
    refine q_il M dL_law_620 (lv_at hl 0 rfl) ?_
    suffices J : W p l e room_1 s m #[Value.ref bs] below meth c H locs (cells + rmL_freeze.cells) (slots + rmL_freeze.slots) Q (F0 m 630 ls ([.long (jL bz), .long (f2 0)])) by
      refine q_if_eq (tgt := 629) M dL_law_622 (by decide) (by omega) (fun c1 => ?_) (fun c1 => ?_)
      · refine q_lc (z := 0) M dL_law_629 (by decide +kernel) ?_
        rw [c1] at J
        exact J
      · refine q_lc (z := 1) M dL_law_625 (by decide +kernel) ?_
        refine q_go (tgt := 630) M dL_law_626 (by decide) ?_
        rw [show bz = 1 by omega] at J
        exact J
    refine q_lcmpE M (hko c2) dL_law_630 ?_
    refine q_if_eq (tgt := 636) M dL_law_631 (by decide) (by omega) (fun c3 => ?_) (fun c3 => absurd rfl c3)
    refine q_go (tgt := 1468) M dL_law_636 (by decide) ?_
    exact kk f2 μ2 ν2 H locs ls _ _ (by show cells + 1 ≤ cells + 5; omega) (by show slots + 6 ≤ slots + 30; omega) hR w (lv_sub hl [2, 3, 4, 5, 6] rfl)

set_option maxHeartbeats 4000000 in
set_option maxRecDepth 100000 in
theorem law_addEntry {p : Program} {l : Launch} {e : Env} {s : State} {m : MethodId} {below : List Frame} {meth : Method} {c : Code} {Q : State → Prop} {D : va_G} {cI cZ cJ : ClassId} {A : Nat → Prop} {bs L : Nat} {xs : Nat → Int32} (C : lwC l p s m c D cI cZ cJ A bs L xs) {a b : Nat → Nat} {o : Nat} {f : Nat → Int64} {μ ν : Nat → Int → Int} {H : Heap} {locs : List Loc} {ls : Array Slot} {cells slots : Nat} {i : Int} (hi : 0 ≤ i ∧ i + 5 ≤ (L : Int)) (hc : cells + 5 ≤ 601024 ∧ slots + 30 ≤ 7293034) (h : Rel μ ν) (w : lwW D A s.heap cI cZ cJ a b o f μ ν H locs) (hl : lwL ls bs o a b i) (kk : lwK p l e s m below meth c Q D A cI cZ cJ bs a b o i cells slots) : W p l e room_1 s m #[Value.ref bs] below meth c H locs cells slots Q (F0 m 639 ls []) := by
  obtain ⟨hfl, M, hA, hT, hX, hbl, hbA, hL⟩ := C
  have hl : lv_has ls 7 [(4, .int (iI i)), (0, .ref bs), (1, .ref (a 0)), (2, .ref (b 0)), (3, .ref o)] := hl
  have w : wW D A s.heap (WL cI cJ a o f μ ++ WMod cI cZ b ν) H locs := w
  obtain ⟨k, bz, f2, μ2, ν2, hLc, hCi, hk0, hko, hR, hkr, hpb⟩ := s_addEntry l hfl D cI cZ cJ a b o f μ ν (xZ xs (i + 1)) (xZ xs (i + 2)) (xZ xs (i + 3)) (xZ_r xs (i + 1)) (xZ_r xs (i + 2)) (xZ_r xs (i + 3)) h
  refine q_aln M dL_law_639 (lv_at hl 2 rfl) ?_
  refine q_aln M dL_law_640 (lv_at hl 1 rfl) ?_
  refine q_il M dL_law_641 (lv_at hl 0 rfl) ?_
  refine q_ic M dL_law_643 ?_
  refine q_add M dL_law_644 ?_
  refine q_sld (z := i + 1) M w hX hbl hbA hL (by omega) dL_law_645 ?_
  refine q_aln M dL_law_646 (lv_at hl 1 rfl) ?_
  refine q_il M dL_law_647 (lv_at hl 0 rfl) ?_
  refine q_ic M dL_law_649 ?_
  refine q_add M dL_law_650 ?_
  refine q_sld (z := i + 2) M w hX hbl hbA hL (by omega) dL_law_651 ?_
  refine q_aln M dL_law_652 (lv_at hl 1 rfl) ?_
  refine q_il M dL_law_653 (lv_at hl 0 rfl) ?_
  refine q_ic M dL_law_655 ?_
  refine q_add M dL_law_656 ?_
  refine q_sld (z := i + 3) M w hX hbl hbA hL (by omega) dL_law_657 ?_
  refine q_aln M dL_law_658 (lv_at hl 4 rfl) ?_
  refine qc_L (As := [.ref (a 0), .int (iI (xZ xs (i + 1))), .int (iI (xZ xs (i + 2))), .int (iI (xZ xs (i + 3))), .ref o]) (rest := []) (wc := WL cI cJ a o f μ) (wc2 := WL cI cJ a o f2 μ2) (ws2 := WL cI cJ a o f2 μ2 ++ WMod cI cZ b ν) M w hA hT hl hLc gL_law_L_addEntry rfl ⟨by decide, by decide⟩ ⟨by show cells + 5 ≤ 601024; omega, by show slots + 30 ≤ 7293034; omega⟩ 5 (by decide +kernel) rfl [true, true, true, true, true, true, true, true, true, true, true, true, true, true, true, true, true, true, true, true, true, true, true, true, true, true, true, true, true, true, true, true, true, true, true, true, true, true, true, true, true, true, true, true, true, true, true, true, true, true, true] rfl rfl rfl (Nat.le_of_ble_eq_true rfl) rfl dL_law_659 (fun H locs w => ?_)
  refine q_is (lv' := [(5, .int (iI k)), (4, .int (iI i)), (0, .ref bs), (1, .ref (a 0)), (2, .ref (b 0)), (3, .ref o)]) M dL_law_662 hl (by decide) rfl (fun ls hl => ?_)
  refine q_aln M dL_law_664 (lv_at hl 4 rfl) ?_
  refine q_aln M dL_law_665 (lv_at hl 2 rfl) ?_
  refine q_il M dL_law_666 (lv_at hl 1 rfl) ?_
  refine q_ic M dL_law_668 ?_
  refine q_add M dL_law_669 ?_
  refine q_sld (z := i + 1) M w hX hbl hbA hL (by omega) dL_law_670 ?_
  refine q_aln M dL_law_671 (lv_at hl 2 rfl) ?_
  refine q_il M dL_law_672 (lv_at hl 1 rfl) ?_
  refine q_ic M dL_law_674 ?_
  refine q_add M dL_law_675 ?_
  refine q_sld (z := i + 2) M w hX hbl hbA hL (by omega) dL_law_676 ?_
  refine q_aln M dL_law_677 (lv_at hl 2 rfl) ?_
  refine q_il M dL_law_678 (lv_at hl 1 rfl) ?_
  refine q_ic M dL_law_680 ?_
  refine q_add M dL_law_681 ?_
  refine q_sld (z := i + 3) M w hX hbl hbA hL (by omega) dL_law_682 ?_
  refine qc_iV (As := [.int (iI (xZ xs (i + 1))), .int (iI (xZ xs (i + 2))), .int (iI (xZ xs (i + 3)))]) (rest := []) (wc := WMod cI cZ b ν) (wc2 := WMod cI cZ b ν2) (ws2 := WL cI cJ a o f2 μ2 ++ WMod cI cZ b ν2) M w hA hl hCi gL_law_X7_addEntry rfl ⟨rfl, rfl, by decide, by decide⟩ ⟨by show cells + 5 ≤ 601024; omega, by show slots + 30 ≤ 7293034; omega⟩ 3 ⟨rfl, by decide +kernel⟩ rfl [false, false, false, false, false, false, false, false, false, false, false, false, false, false, false, false, false, false, false, false, false, false, false, false, false, false, false, false, false, false, false, false, false, false, false, false, false, false, false, false, false, false, false, false, false, false, false, false, false, false, false, true, true, true, true, true, true, true, true, true, true, true, true, true, true, true, true, true, true, true, true, true] rfl rfl 51 rfl rfl rfl (Nat.le_of_ble_eq_true rfl) rfl dL_law_683 (fun H locs w => ?_)
  refine q_is (lv' := [(6, .int (iI bz)), (5, .int (iI k)), (4, .int (iI i)), (0, .ref bs), (1, .ref (a 0)), (2, .ref (b 0)), (3, .ref o)]) M dL_law_686 hl (by decide) rfl (fun ls hl => ?_)
  refine q_aln M dL_law_688 (lv_at hl 5 rfl) ?_
  refine qc_iV (As := []) (rest := []) (wc := WMod cI cZ b ν2) (wc2 := WMod cI cZ b ν2) (ws2 := WL cI cJ a o f2 μ2 ++ WMod cI cZ b ν2) M w hA hl (m_thrown l D cI cZ cJ b ν2) gL_law_X7_thrown rfl ⟨rfl, rfl, by decide, by decide⟩ ⟨by show cells + 5 ≤ 601024; omega, by show slots + 30 ≤ 7293034; omega⟩ 0 ⟨rfl, by decide +kernel⟩ rfl [false, false, false, false, false, false, false, false, false, false, false, false, false, false, false, false, false, false, false, false, false, false, false, false, false, false, false, false, false, false, false, false, false, false, false, false, false, false, false, false, false, false, false, false, false, false, false, false, false, false, false, true, true, true, true, true, true, true, true, true, true, true, true, true, true, true, true, true, true, true, true, true] rfl rfl 51 rfl rfl rfl (Nat.le_of_ble_eq_true rfl) rfl dL_law_689 (fun H locs w => ?_)
  refine q_il M dL_law_692 (lv_at hl 1 rfl) ?_
  refine q_eqE (tgt := 699) M (by rw [hk0]) dL_law_694 (by decide) ?_
  refine q_il M dL_law_699 (lv_at hl 1 rfl) ?_
  refine q_if_ne (tgt := 716) M dL_law_701 (by decide) (by omega) (fun c2 => ?_) (fun c2 => ?_)
  · refine q_go (tgt := 1468) M dL_law_716 (by decide) ?_
    exact kk f2 μ2 ν2 H locs ls _ _ (by show cells + 5 ≤ cells + 5; omega) (by show slots + 30 ≤ slots + 30; omega) hR w (lv_sub hl [2, 3, 4, 5, 6] rfl)
  · refine q_aln M dL_law_704 (lv_at hl 6 rfl) ?_
    refine q_ic M dL_law_705 ?_
    refine q_lald0 (f := f2) M w 0 2 rfl rfl dL_law_706 ?_
    refine q_il M dL_law_707 (lv_at hl 0 rfl) ?_
    refine q_i2l M dL_law_709 ?_
    refine q_lcmpE M (hko c2) dL_law_710 ?_
    refine q_if_eq (tgt := 716) M dL_law_711 (by decide) (by omega) (fun c3 => ?_) (fun c3 => absurd rfl c3)
    refine q_go (tgt := 1468) M dL_law_716 (by decide) ?_
    exact kk f2 μ2 ν2 H locs ls _ _ (by show cells + 5 ≤ cells + 5; omega) (by show slots + 30 ≤ slots + 30; omega) hR w (lv_sub hl [2, 3, 4, 5, 6] rfl)

set_option maxHeartbeats 4000000 in
set_option maxRecDepth 100000 in
theorem law_jump {p : Program} {l : Launch} {e : Env} {s : State} {m : MethodId} {below : List Frame} {meth : Method} {c : Code} {Q : State → Prop} {D : va_G} {cI cZ cJ : ClassId} {A : Nat → Prop} {bs L : Nat} {xs : Nat → Int32} (C : lwC l p s m c D cI cZ cJ A bs L xs) {a b : Nat → Nat} {o : Nat} {f : Nat → Int64} {μ ν : Nat → Int → Int} {H : Heap} {locs : List Loc} {ls : Array Slot} {cells slots : Nat} {i : Int} (hi : 0 ≤ i ∧ i + 5 ≤ (L : Int)) (hc : cells + 5 ≤ 601024 ∧ slots + 30 ≤ 7293034) (h : Rel μ ν) (w : lwW D A s.heap cI cZ cJ a b o f μ ν H locs) (hl : lwL ls bs o a b i) (kk : lwK p l e s m below meth c Q D A cI cZ cJ bs a b o i cells slots) : W p l e room_1 s m #[Value.ref bs] below meth c H locs cells slots Q (F0 m 719 ls []) := by
  obtain ⟨hfl, M, hA, hT, hX, hbl, hbA, hL⟩ := C
  have hl : lv_has ls 7 [(4, .int (iI i)), (0, .ref bs), (1, .ref (a 0)), (2, .ref (b 0)), (3, .ref o)] := hl
  have w : wW D A s.heap (WL cI cJ a o f μ ++ WMod cI cZ b ν) H locs := w
  obtain ⟨k, bz, f2, μ2, ν2, hLc, hCi, hk0, hko, hR, hkr, hpb⟩ := s_jump l hfl D cI cZ cJ a b o f μ ν (xZ xs (i + 1)) (xZ xs (i + 2)) (xZ xs (i + 3)) (xZ xs (i + 4)) (xZ_r xs (i + 1)) (xZ_r xs (i + 2)) (xZ_r xs (i + 3)) (xZ_r xs (i + 4)) h
  refine q_aln M dL_law_719 (lv_at hl 2 rfl) ?_
  refine q_aln M dL_law_720 (lv_at hl 1 rfl) ?_
  refine q_il M dL_law_721 (lv_at hl 0 rfl) ?_
  refine q_ic M dL_law_723 ?_
  refine q_add M dL_law_724 ?_
  refine q_sld (z := i + 1) M w hX hbl hbA hL (by omega) dL_law_725 ?_
  refine q_aln M dL_law_726 (lv_at hl 1 rfl) ?_
  refine q_il M dL_law_727 (lv_at hl 0 rfl) ?_
  refine q_ic M dL_law_729 ?_
  refine q_add M dL_law_730 ?_
  refine q_sld (z := i + 2) M w hX hbl hbA hL (by omega) dL_law_731 ?_
  refine q_aln M dL_law_732 (lv_at hl 1 rfl) ?_
  refine q_il M dL_law_733 (lv_at hl 0 rfl) ?_
  refine q_ic M dL_law_735 ?_
  refine q_add M dL_law_736 ?_
  refine q_sld (z := i + 3) M w hX hbl hbA hL (by omega) dL_law_737 ?_
  refine q_aln M dL_law_738 (lv_at hl 1 rfl) ?_
  refine q_il M dL_law_739 (lv_at hl 0 rfl) ?_
  refine q_ic M dL_law_741 ?_
  refine q_add M dL_law_742 ?_
  refine q_sld (z := i + 4) M w hX hbl hbA hL (by omega) dL_law_743 ?_
  refine q_aln M dL_law_744 (lv_at hl 4 rfl) ?_
  refine qc_L (As := [.ref (a 0), .int (iI (xZ xs (i + 1))), .int (iI (xZ xs (i + 2))), .int (iI (xZ xs (i + 3))), .int (iI (xZ xs (i + 4))), .ref o]) (rest := []) (wc := WL cI cJ a o f μ) (wc2 := WL cI cJ a o f2 μ2) (ws2 := WL cI cJ a o f2 μ2 ++ WMod cI cZ b ν) M w hA hT hl hLc gL_law_L_jump rfl ⟨by decide, by decide⟩ ⟨by show cells + 5 ≤ 601024; omega, by show slots + 30 ≤ 7293034; omega⟩ 6 (by decide +kernel) rfl [true, true, true, true, true, true, true, true, true, true, true, true, true, true, true, true, true, true, true, true, true, true, true, true, true, true, true, true, true, true, true, true, true, true, true, true, true, true, true, true, true, true, true, true, true, true, true, true, true, true, true] rfl rfl rfl (Nat.le_of_ble_eq_true rfl) rfl dL_law_745 (fun H locs w => ?_)
  refine q_is (lv' := [(5, .int (iI k)), (4, .int (iI i)), (0, .ref bs), (1, .ref (a 0)), (2, .ref (b 0)), (3, .ref o)]) M dL_law_748 hl (by decide) rfl (fun ls hl => ?_)
  refine q_aln M dL_law_750 (lv_at hl 4 rfl) ?_
  refine q_aln M dL_law_751 (lv_at hl 2 rfl) ?_
  refine q_il M dL_law_752 (lv_at hl 1 rfl) ?_
  refine q_ic M dL_law_754 ?_
  refine q_add M dL_law_755 ?_
  refine q_sld (z := i + 1) M w hX hbl hbA hL (by omega) dL_law_756 ?_
  refine q_aln M dL_law_757 (lv_at hl 2 rfl) ?_
  refine q_il M dL_law_758 (lv_at hl 1 rfl) ?_
  refine q_ic M dL_law_760 ?_
  refine q_add M dL_law_761 ?_
  refine q_sld (z := i + 2) M w hX hbl hbA hL (by omega) dL_law_762 ?_
  refine q_aln M dL_law_763 (lv_at hl 2 rfl) ?_
  refine q_il M dL_law_764 (lv_at hl 1 rfl) ?_
  refine q_ic M dL_law_766 ?_
  refine q_add M dL_law_767 ?_
  refine q_sld (z := i + 3) M w hX hbl hbA hL (by omega) dL_law_768 ?_
  refine q_aln M dL_law_769 (lv_at hl 2 rfl) ?_
  refine q_il M dL_law_770 (lv_at hl 1 rfl) ?_
  refine q_ic M dL_law_772 ?_
  refine q_add M dL_law_773 ?_
  refine q_sld (z := i + 4) M w hX hbl hbA hL (by omega) dL_law_774 ?_
  refine qc_iV (As := [.int (iI (xZ xs (i + 1))), .int (iI (xZ xs (i + 2))), .int (iI (xZ xs (i + 3))), .int (iI (xZ xs (i + 4)))]) (rest := []) (wc := WMod cI cZ b ν) (wc2 := WMod cI cZ b ν2) (ws2 := WL cI cJ a o f2 μ2 ++ WMod cI cZ b ν2) M w hA hl hCi gL_law_X7_jump rfl ⟨rfl, rfl, by decide, by decide⟩ ⟨by show cells + 5 ≤ 601024; omega, by show slots + 30 ≤ 7293034; omega⟩ 4 ⟨rfl, by decide +kernel⟩ rfl [false, false, false, false, false, false, false, false, false, false, false, false, false, false, false, false, false, false, false, false, false, false, false, false, false, false, false, false, false, false, false, false, false, false, false, false, false, false, false, false, false, false, false, false, false, false, false, false, false, false, false, true, true, true, true, true, true, true, true, true, true, true, true, true, true, true, true, true, true, true, true, true] rfl rfl 51 rfl rfl rfl (Nat.le_of_ble_eq_true rfl) rfl dL_law_775 (fun H locs w => ?_)
  refine q_is (lv' := [(6, .int (iI bz)), (5, .int (iI k)), (4, .int (iI i)), (0, .ref bs), (1, .ref (a 0)), (2, .ref (b 0)), (3, .ref o)]) M dL_law_778 hl (by decide) rfl (fun ls hl => ?_)
  refine q_aln M dL_law_780 (lv_at hl 5 rfl) ?_
  refine qc_iV (As := []) (rest := []) (wc := WMod cI cZ b ν2) (wc2 := WMod cI cZ b ν2) (ws2 := WL cI cJ a o f2 μ2 ++ WMod cI cZ b ν2) M w hA hl (m_thrown l D cI cZ cJ b ν2) gL_law_X7_thrown rfl ⟨rfl, rfl, by decide, by decide⟩ ⟨by show cells + 5 ≤ 601024; omega, by show slots + 30 ≤ 7293034; omega⟩ 0 ⟨rfl, by decide +kernel⟩ rfl [false, false, false, false, false, false, false, false, false, false, false, false, false, false, false, false, false, false, false, false, false, false, false, false, false, false, false, false, false, false, false, false, false, false, false, false, false, false, false, false, false, false, false, false, false, false, false, false, false, false, false, true, true, true, true, true, true, true, true, true, true, true, true, true, true, true, true, true, true, true, true, true] rfl rfl 51 rfl rfl rfl (Nat.le_of_ble_eq_true rfl) rfl dL_law_781 (fun H locs w => ?_)
  refine q_il M dL_law_784 (lv_at hl 1 rfl) ?_
  refine q_eqE (tgt := 791) M (by rw [hk0]) dL_law_786 (by decide) ?_
  refine q_il M dL_law_791 (lv_at hl 1 rfl) ?_
  refine q_if_ne (tgt := 808) M dL_law_793 (by decide) (by omega) (fun c2 => ?_) (fun c2 => ?_)
  · refine q_go (tgt := 1468) M dL_law_808 (by decide) ?_
    exact kk f2 μ2 ν2 H locs ls _ _ (by show cells + 5 ≤ cells + 5; omega) (by show slots + 30 ≤ slots + 30; omega) hR w (lv_sub hl [2, 3, 4, 5, 6] rfl)
  · refine q_aln M dL_law_796 (lv_at hl 6 rfl) ?_
    refine q_ic M dL_law_797 ?_
    refine q_lald0 (f := f2) M w 0 2 rfl rfl dL_law_798 ?_
    refine q_il M dL_law_799 (lv_at hl 0 rfl) ?_
    refine q_i2l M dL_law_801 ?_
    refine q_lcmpE M (hko c2) dL_law_802 ?_
    refine q_if_eq (tgt := 808) M dL_law_803 (by decide) (by omega) (fun c3 => ?_) (fun c3 => absurd rfl c3)
    refine q_go (tgt := 1468) M dL_law_808 (by decide) ?_
    exact kk f2 μ2 ν2 H locs ls _ _ (by show cells + 5 ≤ cells + 5; omega) (by show slots + 30 ≤ slots + 30; omega) hR w (lv_sub hl [2, 3, 4, 5, 6] rfl)

set_option maxHeartbeats 4000000 in
set_option maxRecDepth 100000 in
theorem law_bars {p : Program} {l : Launch} {e : Env} {s : State} {m : MethodId} {below : List Frame} {meth : Method} {c : Code} {Q : State → Prop} {D : va_G} {cI cZ cJ : ClassId} {A : Nat → Prop} {bs L : Nat} {xs : Nat → Int32} (C : lwC l p s m c D cI cZ cJ A bs L xs) {a b : Nat → Nat} {o : Nat} {f : Nat → Int64} {μ ν : Nat → Int → Int} {H : Heap} {locs : List Loc} {ls : Array Slot} {cells slots : Nat} {i : Int} (hi : 0 ≤ i ∧ i + 5 ≤ (L : Int)) (hc : cells + 5 ≤ 601024 ∧ slots + 30 ≤ 7293034) (h : Rel μ ν) (w : lwW D A s.heap cI cZ cJ a b o f μ ν H locs) (hl : lwL ls bs o a b i) (kk : lwK p l e s m below meth c Q D A cI cZ cJ bs a b o i cells slots) : W p l e room_1 s m #[Value.ref bs] below meth c H locs cells slots Q (F0 m 811 ls []) := by
  obtain ⟨hfl, M, hA, hT, hX, hbl, hbA, hL⟩ := C
  have hl : lv_has ls 7 [(4, .int (iI i)), (0, .ref bs), (1, .ref (a 0)), (2, .ref (b 0)), (3, .ref o)] := hl
  have w : wW D A s.heap (WL cI cJ a o f μ ++ WMod cI cZ b ν) H locs := w
  obtain ⟨k, bz, f2, μ2, ν2, hLc, hCi, hk0, hko, hR, hkr, hpb⟩ := s_bars l hfl D cI cZ cJ a b o f μ ν (xZ xs (i + 1)) (xZ_r xs (i + 1)) h
  refine q_aln M dL_law_811 (lv_at hl 2 rfl) ?_
  refine q_aln M dL_law_812 (lv_at hl 1 rfl) ?_
  refine q_il M dL_law_813 (lv_at hl 0 rfl) ?_
  refine q_ic M dL_law_815 ?_
  refine q_add M dL_law_816 ?_
  refine q_sld (z := i + 1) M w hX hbl hbA hL (by omega) dL_law_817 ?_
  refine q_aln M dL_law_818 (lv_at hl 4 rfl) ?_
  refine qc_L (As := [.ref (a 0), .int (iI (xZ xs (i + 1))), .ref o]) (rest := []) (wc := WL cI cJ a o f μ) (wc2 := WL cI cJ a o f2 μ2) (ws2 := WL cI cJ a o f2 μ2 ++ WMod cI cZ b ν) M w hA hT hl hLc gL_law_L_bars rfl ⟨by decide, by decide⟩ ⟨by show cells + 1 ≤ 601024; omega, by show slots + 6 ≤ 7293034; omega⟩ 3 (by decide +kernel) rfl [true, true, true, true, true, true, true, true, true, true, true, true, true, true, true, true, true, true, true, true, true, true, true, true, true, true, true, true, true, true, true, true, true, true, true, true, true, true, true, true, true, true, true, true, true, true, true, true, true, true, true] rfl rfl rfl (Nat.le_of_ble_eq_true rfl) rfl dL_law_819 (fun H locs w => ?_)
  refine q_is (lv' := [(5, .int (iI k)), (4, .int (iI i)), (0, .ref bs), (1, .ref (a 0)), (2, .ref (b 0)), (3, .ref o)]) M dL_law_822 hl (by decide) rfl (fun ls hl => ?_)
  refine q_aln M dL_law_824 (lv_at hl 4 rfl) ?_
  refine q_aln M dL_law_825 (lv_at hl 2 rfl) ?_
  refine q_il M dL_law_826 (lv_at hl 1 rfl) ?_
  refine q_ic M dL_law_828 ?_
  refine q_add M dL_law_829 ?_
  refine q_sld (z := i + 1) M w hX hbl hbA hL (by omega) dL_law_830 ?_
  refine qc_iV (As := [.int (iI (xZ xs (i + 1)))]) (rest := []) (wc := WMod cI cZ b ν) (wc2 := WMod cI cZ b ν2) (ws2 := WL cI cJ a o f2 μ2 ++ WMod cI cZ b ν2) M w hA hl hCi gL_law_X7_bars rfl ⟨rfl, rfl, by decide, by decide⟩ ⟨by show cells + 1 ≤ 601024; omega, by show slots + 6 ≤ 7293034; omega⟩ 1 ⟨rfl, by decide +kernel⟩ rfl [false, false, false, false, false, false, false, false, false, false, false, false, false, false, false, false, false, false, false, false, false, false, false, false, false, false, false, false, false, false, false, false, false, false, false, false, false, false, false, false, false, false, false, false, false, false, false, false, false, false, false, true, true, true, true, true, true, true, true, true, true, true, true, true, true, true, true, true, true, true, true, true] rfl rfl 51 rfl rfl rfl (Nat.le_of_ble_eq_true rfl) rfl dL_law_831 (fun H locs w => ?_)
  refine q_is (lv' := [(6, .int (iI bz)), (5, .int (iI k)), (4, .int (iI i)), (0, .ref bs), (1, .ref (a 0)), (2, .ref (b 0)), (3, .ref o)]) M dL_law_834 hl (by decide) rfl (fun ls hl => ?_)
  refine q_aln M dL_law_836 (lv_at hl 5 rfl) ?_
  refine qc_iV (As := []) (rest := []) (wc := WMod cI cZ b ν2) (wc2 := WMod cI cZ b ν2) (ws2 := WL cI cJ a o f2 μ2 ++ WMod cI cZ b ν2) M w hA hl (m_thrown l D cI cZ cJ b ν2) gL_law_X7_thrown rfl ⟨rfl, rfl, by decide, by decide⟩ ⟨by show cells + 1 ≤ 601024; omega, by show slots + 6 ≤ 7293034; omega⟩ 0 ⟨rfl, by decide +kernel⟩ rfl [false, false, false, false, false, false, false, false, false, false, false, false, false, false, false, false, false, false, false, false, false, false, false, false, false, false, false, false, false, false, false, false, false, false, false, false, false, false, false, false, false, false, false, false, false, false, false, false, false, false, false, true, true, true, true, true, true, true, true, true, true, true, true, true, true, true, true, true, true, true, true, true] rfl rfl 51 rfl rfl rfl (Nat.le_of_ble_eq_true rfl) rfl dL_law_837 (fun H locs w => ?_)
  refine q_il M dL_law_840 (lv_at hl 1 rfl) ?_
  refine q_eqE (tgt := 847) M (by rw [hk0]) dL_law_842 (by decide) ?_
  refine q_il M dL_law_847 (lv_at hl 1 rfl) ?_
  refine q_if_ne (tgt := 864) M dL_law_849 (by decide) (by omega) (fun c2 => ?_) (fun c2 => ?_)
  · refine q_go (tgt := 1468) M dL_law_864 (by decide) ?_
    exact kk f2 μ2 ν2 H locs ls _ _ (by show cells + 1 ≤ cells + 5; omega) (by show slots + 6 ≤ slots + 30; omega) hR w (lv_sub hl [2, 3, 4, 5, 6] rfl)
  · refine q_aln M dL_law_852 (lv_at hl 6 rfl) ?_
    refine q_ic M dL_law_853 ?_
    refine q_lald0 (f := f2) M w 0 2 rfl rfl dL_law_854 ?_
    refine q_il M dL_law_855 (lv_at hl 0 rfl) ?_
    refine q_i2l M dL_law_857 ?_
    refine q_lcmpE M (hko c2) dL_law_858 ?_
    refine q_if_eq (tgt := 864) M dL_law_859 (by decide) (by omega) (fun c3 => ?_) (fun c3 => absurd rfl c3)
    refine q_go (tgt := 1468) M dL_law_864 (by decide) ?_
    exact kk f2 μ2 ν2 H locs ls _ _ (by show cells + 1 ≤ cells + 5; omega) (by show slots + 6 ≤ slots + 30; omega) hR w (lv_sub hl [2, 3, 4, 5, 6] rfl)

set_option maxHeartbeats 4000000 in
set_option maxRecDepth 100000 in
theorem law_barAt {p : Program} {l : Launch} {e : Env} {s : State} {m : MethodId} {below : List Frame} {meth : Method} {c : Code} {Q : State → Prop} {D : va_G} {cI cZ cJ : ClassId} {A : Nat → Prop} {bs L : Nat} {xs : Nat → Int32} (C : lwC l p s m c D cI cZ cJ A bs L xs) {a b : Nat → Nat} {o : Nat} {f : Nat → Int64} {μ ν : Nat → Int → Int} {H : Heap} {locs : List Loc} {ls : Array Slot} {cells slots : Nat} {i : Int} (hi : 0 ≤ i ∧ i + 5 ≤ (L : Int)) (hc : cells + 5 ≤ 601024 ∧ slots + 30 ≤ 7293034) (h : Rel μ ν) (w : lwW D A s.heap cI cZ cJ a b o f μ ν H locs) (hl : lwL ls bs o a b i) (kk : lwK p l e s m below meth c Q D A cI cZ cJ bs a b o i cells slots) : W p l e room_1 s m #[Value.ref bs] below meth c H locs cells slots Q (F0 m 867 ls []) := by
  obtain ⟨hfl, M, hA, hT, hX, hbl, hbA, hL⟩ := C
  have hl : lv_has ls 7 [(4, .int (iI i)), (0, .ref bs), (1, .ref (a 0)), (2, .ref (b 0)), (3, .ref o)] := hl
  have w : wW D A s.heap (WL cI cJ a o f μ ++ WMod cI cZ b ν) H locs := w
  obtain ⟨k, bz, f2, μ2, ν2, hLc, hCi, hk0, hko, hR, hkr, hpb⟩ := s_barAt l hfl D cI cZ cJ a b o f μ ν (xZ xs (i + 1)) (xZ xs (i + 2)) (xZ_r xs (i + 1)) (xZ_r xs (i + 2)) h
  refine q_aln M dL_law_867 (lv_at hl 2 rfl) ?_
  refine q_aln M dL_law_868 (lv_at hl 1 rfl) ?_
  refine q_il M dL_law_869 (lv_at hl 0 rfl) ?_
  refine q_ic M dL_law_871 ?_
  refine q_add M dL_law_872 ?_
  refine q_sld (z := i + 1) M w hX hbl hbA hL (by omega) dL_law_873 ?_
  refine q_aln M dL_law_874 (lv_at hl 1 rfl) ?_
  refine q_il M dL_law_875 (lv_at hl 0 rfl) ?_
  refine q_ic M dL_law_877 ?_
  refine q_add M dL_law_878 ?_
  refine q_sld (z := i + 2) M w hX hbl hbA hL (by omega) dL_law_879 ?_
  refine q_aln M dL_law_880 (lv_at hl 4 rfl) ?_
  refine qc_L (As := [.ref (a 0), .int (iI (xZ xs (i + 1))), .int (iI (xZ xs (i + 2))), .ref o]) (rest := []) (wc := WL cI cJ a o f μ) (wc2 := WL cI cJ a o f2 μ2) (ws2 := WL cI cJ a o f2 μ2 ++ WMod cI cZ b ν) M w hA hT hl hLc gL_law_L_barAt rfl ⟨by decide, by decide⟩ ⟨by show cells + 2 ≤ 601024; omega, by show slots + 12 ≤ 7293034; omega⟩ 4 (by decide +kernel) rfl [true, true, true, true, true, true, true, true, true, true, true, true, true, true, true, true, true, true, true, true, true, true, true, true, true, true, true, true, true, true, true, true, true, true, true, true, true, true, true, true, true, true, true, true, true, true, true, true, true, true, true] rfl rfl rfl (Nat.le_of_ble_eq_true rfl) rfl dL_law_881 (fun H locs w => ?_)
  refine q_is (lv' := [(5, .int (iI k)), (4, .int (iI i)), (0, .ref bs), (1, .ref (a 0)), (2, .ref (b 0)), (3, .ref o)]) M dL_law_884 hl (by decide) rfl (fun ls hl => ?_)
  refine q_aln M dL_law_886 (lv_at hl 4 rfl) ?_
  refine q_aln M dL_law_887 (lv_at hl 2 rfl) ?_
  refine q_il M dL_law_888 (lv_at hl 1 rfl) ?_
  refine q_ic M dL_law_890 ?_
  refine q_add M dL_law_891 ?_
  refine q_sld (z := i + 1) M w hX hbl hbA hL (by omega) dL_law_892 ?_
  refine q_aln M dL_law_893 (lv_at hl 2 rfl) ?_
  refine q_il M dL_law_894 (lv_at hl 1 rfl) ?_
  refine q_ic M dL_law_896 ?_
  refine q_add M dL_law_897 ?_
  refine q_sld (z := i + 2) M w hX hbl hbA hL (by omega) dL_law_898 ?_
  refine qc_iV (As := [.int (iI (xZ xs (i + 1))), .int (iI (xZ xs (i + 2)))]) (rest := []) (wc := WMod cI cZ b ν) (wc2 := WMod cI cZ b ν2) (ws2 := WL cI cJ a o f2 μ2 ++ WMod cI cZ b ν2) M w hA hl hCi gL_law_X7_barAt rfl ⟨rfl, rfl, by decide, by decide⟩ ⟨by show cells + 2 ≤ 601024; omega, by show slots + 12 ≤ 7293034; omega⟩ 2 ⟨rfl, by decide +kernel⟩ rfl [false, false, false, false, false, false, false, false, false, false, false, false, false, false, false, false, false, false, false, false, false, false, false, false, false, false, false, false, false, false, false, false, false, false, false, false, false, false, false, false, false, false, false, false, false, false, false, false, false, false, false, true, true, true, true, true, true, true, true, true, true, true, true, true, true, true, true, true, true, true, true, true] rfl rfl 51 rfl rfl rfl (Nat.le_of_ble_eq_true rfl) rfl dL_law_899 (fun H locs w => ?_)
  refine q_is (lv' := [(6, .int (iI bz)), (5, .int (iI k)), (4, .int (iI i)), (0, .ref bs), (1, .ref (a 0)), (2, .ref (b 0)), (3, .ref o)]) M dL_law_902 hl (by decide) rfl (fun ls hl => ?_)
  refine q_aln M dL_law_904 (lv_at hl 5 rfl) ?_
  refine qc_iV (As := []) (rest := []) (wc := WMod cI cZ b ν2) (wc2 := WMod cI cZ b ν2) (ws2 := WL cI cJ a o f2 μ2 ++ WMod cI cZ b ν2) M w hA hl (m_thrown l D cI cZ cJ b ν2) gL_law_X7_thrown rfl ⟨rfl, rfl, by decide, by decide⟩ ⟨by show cells + 2 ≤ 601024; omega, by show slots + 12 ≤ 7293034; omega⟩ 0 ⟨rfl, by decide +kernel⟩ rfl [false, false, false, false, false, false, false, false, false, false, false, false, false, false, false, false, false, false, false, false, false, false, false, false, false, false, false, false, false, false, false, false, false, false, false, false, false, false, false, false, false, false, false, false, false, false, false, false, false, false, false, true, true, true, true, true, true, true, true, true, true, true, true, true, true, true, true, true, true, true, true, true] rfl rfl 51 rfl rfl rfl (Nat.le_of_ble_eq_true rfl) rfl dL_law_905 (fun H locs w => ?_)
  refine q_il M dL_law_908 (lv_at hl 1 rfl) ?_
  refine q_eqE (tgt := 915) M (by rw [hk0]) dL_law_910 (by decide) ?_
  refine q_il M dL_law_915 (lv_at hl 1 rfl) ?_
  refine q_if_ne (tgt := 932) M dL_law_917 (by decide) (by omega) (fun c2 => ?_) (fun c2 => ?_)
  · refine q_go (tgt := 1468) M dL_law_932 (by decide) ?_
    exact kk f2 μ2 ν2 H locs ls _ _ (by show cells + 2 ≤ cells + 5; omega) (by show slots + 12 ≤ slots + 30; omega) hR w (lv_sub hl [2, 3, 4, 5, 6] rfl)
  · refine q_aln M dL_law_920 (lv_at hl 6 rfl) ?_
    refine q_ic M dL_law_921 ?_
    refine q_lald0 (f := f2) M w 0 2 rfl rfl dL_law_922 ?_
    refine q_il M dL_law_923 (lv_at hl 0 rfl) ?_
    refine q_i2l M dL_law_925 ?_
    refine q_lcmpE M (hko c2) dL_law_926 ?_
    refine q_if_eq (tgt := 932) M dL_law_927 (by decide) (by omega) (fun c3 => ?_) (fun c3 => absurd rfl c3)
    refine q_go (tgt := 1468) M dL_law_932 (by decide) ?_
    exact kk f2 μ2 ν2 H locs ls _ _ (by show cells + 2 ≤ cells + 5; omega) (by show slots + 12 ≤ slots + 30; omega) hR w (lv_sub hl [2, 3, 4, 5, 6] rfl)

set_option maxHeartbeats 4000000 in
set_option maxRecDepth 100000 in
theorem law_beats {p : Program} {l : Launch} {e : Env} {s : State} {m : MethodId} {below : List Frame} {meth : Method} {c : Code} {Q : State → Prop} {D : va_G} {cI cZ cJ : ClassId} {A : Nat → Prop} {bs L : Nat} {xs : Nat → Int32} (C : lwC l p s m c D cI cZ cJ A bs L xs) {a b : Nat → Nat} {o : Nat} {f : Nat → Int64} {μ ν : Nat → Int → Int} {H : Heap} {locs : List Loc} {ls : Array Slot} {cells slots : Nat} {i : Int} (hi : 0 ≤ i ∧ i + 5 ≤ (L : Int)) (hc : cells + 5 ≤ 601024 ∧ slots + 30 ≤ 7293034) (h : Rel μ ν) (w : lwW D A s.heap cI cZ cJ a b o f μ ν H locs) (hl : lwL ls bs o a b i) (kk : lwK p l e s m below meth c Q D A cI cZ cJ bs a b o i cells slots) : W p l e room_1 s m #[Value.ref bs] below meth c H locs cells slots Q (F0 m 935 ls []) := by
  obtain ⟨hfl, M, hA, hT, hX, hbl, hbA, hL⟩ := C
  have hl : lv_has ls 7 [(4, .int (iI i)), (0, .ref bs), (1, .ref (a 0)), (2, .ref (b 0)), (3, .ref o)] := hl
  have w : wW D A s.heap (WL cI cJ a o f μ ++ WMod cI cZ b ν) H locs := w
  obtain ⟨k, bz, f2, μ2, ν2, hLc, hCi, hk0, hko, hR, hkr, hpb⟩ := s_beats l hfl D cI cZ cJ a b o f μ ν (xZ xs (i + 1)) (xZ_r xs (i + 1)) h
  refine q_aln M dL_law_935 (lv_at hl 2 rfl) ?_
  refine q_aln M dL_law_936 (lv_at hl 1 rfl) ?_
  refine q_il M dL_law_937 (lv_at hl 0 rfl) ?_
  refine q_ic M dL_law_939 ?_
  refine q_add M dL_law_940 ?_
  refine q_sld (z := i + 1) M w hX hbl hbA hL (by omega) dL_law_941 ?_
  refine q_aln M dL_law_942 (lv_at hl 4 rfl) ?_
  refine qc_L (As := [.ref (a 0), .int (iI (xZ xs (i + 1))), .ref o]) (rest := []) (wc := WL cI cJ a o f μ) (wc2 := WL cI cJ a o f2 μ2) (ws2 := WL cI cJ a o f2 μ2 ++ WMod cI cZ b ν) M w hA hT hl hLc gL_law_L_beats rfl ⟨by decide, by decide⟩ ⟨by show cells + 1 ≤ 601024; omega, by show slots + 6 ≤ 7293034; omega⟩ 3 (by decide +kernel) rfl [true, true, true, true, true, true, true, true, true, true, true, true, true, true, true, true, true, true, true, true, true, true, true, true, true, true, true, true, true, true, true, true, true, true, true, true, true, true, true, true, true, true, true, true, true, true, true, true, true, true, true] rfl rfl rfl (Nat.le_of_ble_eq_true rfl) rfl dL_law_943 (fun H locs w => ?_)
  refine q_is (lv' := [(5, .int (iI k)), (4, .int (iI i)), (0, .ref bs), (1, .ref (a 0)), (2, .ref (b 0)), (3, .ref o)]) M dL_law_946 hl (by decide) rfl (fun ls hl => ?_)
  refine q_aln M dL_law_948 (lv_at hl 4 rfl) ?_
  refine q_aln M dL_law_949 (lv_at hl 2 rfl) ?_
  refine q_il M dL_law_950 (lv_at hl 1 rfl) ?_
  refine q_ic M dL_law_952 ?_
  refine q_add M dL_law_953 ?_
  refine q_sld (z := i + 1) M w hX hbl hbA hL (by omega) dL_law_954 ?_
  refine qc_iV (As := [.int (iI (xZ xs (i + 1)))]) (rest := []) (wc := WMod cI cZ b ν) (wc2 := WMod cI cZ b ν2) (ws2 := WL cI cJ a o f2 μ2 ++ WMod cI cZ b ν2) M w hA hl hCi gL_law_X7_beats rfl ⟨rfl, rfl, by decide, by decide⟩ ⟨by show cells + 1 ≤ 601024; omega, by show slots + 6 ≤ 7293034; omega⟩ 1 ⟨rfl, by decide +kernel⟩ rfl [false, false, false, false, false, false, false, false, false, false, false, false, false, false, false, false, false, false, false, false, false, false, false, false, false, false, false, false, false, false, false, false, false, false, false, false, false, false, false, false, false, false, false, false, false, false, false, false, false, false, false, true, true, true, true, true, true, true, true, true, true, true, true, true, true, true, true, true, true, true, true, true] rfl rfl 51 rfl rfl rfl (Nat.le_of_ble_eq_true rfl) rfl dL_law_955 (fun H locs w => ?_)
  refine q_is (lv' := [(6, .int (iI bz)), (5, .int (iI k)), (4, .int (iI i)), (0, .ref bs), (1, .ref (a 0)), (2, .ref (b 0)), (3, .ref o)]) M dL_law_958 hl (by decide) rfl (fun ls hl => ?_)
  refine q_aln M dL_law_960 (lv_at hl 5 rfl) ?_
  refine qc_iV (As := []) (rest := []) (wc := WMod cI cZ b ν2) (wc2 := WMod cI cZ b ν2) (ws2 := WL cI cJ a o f2 μ2 ++ WMod cI cZ b ν2) M w hA hl (m_thrown l D cI cZ cJ b ν2) gL_law_X7_thrown rfl ⟨rfl, rfl, by decide, by decide⟩ ⟨by show cells + 1 ≤ 601024; omega, by show slots + 6 ≤ 7293034; omega⟩ 0 ⟨rfl, by decide +kernel⟩ rfl [false, false, false, false, false, false, false, false, false, false, false, false, false, false, false, false, false, false, false, false, false, false, false, false, false, false, false, false, false, false, false, false, false, false, false, false, false, false, false, false, false, false, false, false, false, false, false, false, false, false, false, true, true, true, true, true, true, true, true, true, true, true, true, true, true, true, true, true, true, true, true, true] rfl rfl 51 rfl rfl rfl (Nat.le_of_ble_eq_true rfl) rfl dL_law_961 (fun H locs w => ?_)
  refine q_il M dL_law_964 (lv_at hl 1 rfl) ?_
  refine q_eqE (tgt := 971) M (by rw [hk0]) dL_law_966 (by decide) ?_
  refine q_il M dL_law_971 (lv_at hl 1 rfl) ?_
  refine q_if_ne (tgt := 988) M dL_law_973 (by decide) (by omega) (fun c2 => ?_) (fun c2 => ?_)
  · refine q_go (tgt := 1468) M dL_law_988 (by decide) ?_
    exact kk f2 μ2 ν2 H locs ls _ _ (by show cells + 1 ≤ cells + 5; omega) (by show slots + 6 ≤ slots + 30; omega) hR w (lv_sub hl [2, 3, 4, 5, 6] rfl)
  · refine q_aln M dL_law_976 (lv_at hl 6 rfl) ?_
    refine q_ic M dL_law_977 ?_
    refine q_lald0 (f := f2) M w 0 2 rfl rfl dL_law_978 ?_
    refine q_il M dL_law_979 (lv_at hl 0 rfl) ?_
    refine q_i2l M dL_law_981 ?_
    refine q_lcmpE M (hko c2) dL_law_982 ?_
    refine q_if_eq (tgt := 988) M dL_law_983 (by decide) (by omega) (fun c3 => ?_) (fun c3 => absurd rfl c3)
    refine q_go (tgt := 1468) M dL_law_988 (by decide) ?_
    exact kk f2 μ2 ν2 H locs ls _ _ (by show cells + 1 ≤ cells + 5; omega) (by show slots + 6 ≤ slots + 30; omega) hR w (lv_sub hl [2, 3, 4, 5, 6] rfl)

set_option maxHeartbeats 4000000 in
set_option maxRecDepth 100000 in
theorem law_beatsByTicks {p : Program} {l : Launch} {e : Env} {s : State} {m : MethodId} {below : List Frame} {meth : Method} {c : Code} {Q : State → Prop} {D : va_G} {cI cZ cJ : ClassId} {A : Nat → Prop} {bs L : Nat} {xs : Nat → Int32} (C : lwC l p s m c D cI cZ cJ A bs L xs) {a b : Nat → Nat} {o : Nat} {f : Nat → Int64} {μ ν : Nat → Int → Int} {H : Heap} {locs : List Loc} {ls : Array Slot} {cells slots : Nat} {i : Int} (hi : 0 ≤ i ∧ i + 5 ≤ (L : Int)) (hc : cells + 5 ≤ 601024 ∧ slots + 30 ≤ 7293034) (h : Rel μ ν) (w : lwW D A s.heap cI cZ cJ a b o f μ ν H locs) (hl : lwL ls bs o a b i) (kk : lwK p l e s m below meth c Q D A cI cZ cJ bs a b o i cells slots) : W p l e room_1 s m #[Value.ref bs] below meth c H locs cells slots Q (F0 m 991 ls []) := by
  obtain ⟨hfl, M, hA, hT, hX, hbl, hbA, hL⟩ := C
  have hl : lv_has ls 7 [(4, .int (iI i)), (0, .ref bs), (1, .ref (a 0)), (2, .ref (b 0)), (3, .ref o)] := hl
  have w : wW D A s.heap (WL cI cJ a o f μ ++ WMod cI cZ b ν) H locs := w
  obtain ⟨k, bz, f2, μ2, ν2, hLc, hCi, hk0, hko, hR, hkr, hpb⟩ := s_beatsByTicks l hfl D cI cZ cJ a b o f μ ν (xZ xs (i + 1)) (xZ_r xs (i + 1)) h
  refine q_aln M dL_law_991 (lv_at hl 2 rfl) ?_
  refine q_aln M dL_law_992 (lv_at hl 1 rfl) ?_
  refine q_il M dL_law_993 (lv_at hl 0 rfl) ?_
  refine q_ic M dL_law_995 ?_
  refine q_add M dL_law_996 ?_
  refine q_sld (z := i + 1) M w hX hbl hbA hL (by omega) dL_law_997 ?_
  refine q_aln M dL_law_998 (lv_at hl 4 rfl) ?_
  refine qc_L (As := [.ref (a 0), .int (iI (xZ xs (i + 1))), .ref o]) (rest := []) (wc := WL cI cJ a o f μ) (wc2 := WL cI cJ a o f2 μ2) (ws2 := WL cI cJ a o f2 μ2 ++ WMod cI cZ b ν) M w hA hT hl hLc gL_law_L_beatsByTicks rfl ⟨by decide, by decide⟩ ⟨by show cells + 1 ≤ 601024; omega, by show slots + 6 ≤ 7293034; omega⟩ 3 (by decide +kernel) rfl [true, true, true, true, true, true, true, true, true, true, true, true, true, true, true, true, true, true, true, true, true, true, true, true, true, true, true, true, true, true, true, true, true, true, true, true, true, true, true, true, true, true, true, true, true, true, true, true, true, true, true] rfl rfl rfl (Nat.le_of_ble_eq_true rfl) rfl dL_law_999 (fun H locs w => ?_)
  refine q_is (lv' := [(5, .int (iI k)), (4, .int (iI i)), (0, .ref bs), (1, .ref (a 0)), (2, .ref (b 0)), (3, .ref o)]) M dL_law_1002 hl (by decide) rfl (fun ls hl => ?_)
  refine q_aln M dL_law_1004 (lv_at hl 4 rfl) ?_
  refine q_aln M dL_law_1005 (lv_at hl 2 rfl) ?_
  refine q_il M dL_law_1006 (lv_at hl 1 rfl) ?_
  refine q_ic M dL_law_1008 ?_
  refine q_add M dL_law_1009 ?_
  refine q_sld (z := i + 1) M w hX hbl hbA hL (by omega) dL_law_1010 ?_
  refine qc_iV (As := [.int (iI (xZ xs (i + 1)))]) (rest := []) (wc := WMod cI cZ b ν) (wc2 := WMod cI cZ b ν2) (ws2 := WL cI cJ a o f2 μ2 ++ WMod cI cZ b ν2) M w hA hl hCi gL_law_X7_beatsByTicks rfl ⟨rfl, rfl, by decide, by decide⟩ ⟨by show cells + 1 ≤ 601024; omega, by show slots + 6 ≤ 7293034; omega⟩ 1 ⟨rfl, by decide +kernel⟩ rfl [false, false, false, false, false, false, false, false, false, false, false, false, false, false, false, false, false, false, false, false, false, false, false, false, false, false, false, false, false, false, false, false, false, false, false, false, false, false, false, false, false, false, false, false, false, false, false, false, false, false, false, true, true, true, true, true, true, true, true, true, true, true, true, true, true, true, true, true, true, true, true, true] rfl rfl 51 rfl rfl rfl (Nat.le_of_ble_eq_true rfl) rfl dL_law_1011 (fun H locs w => ?_)
  refine q_is (lv' := [(6, .int (iI bz)), (5, .int (iI k)), (4, .int (iI i)), (0, .ref bs), (1, .ref (a 0)), (2, .ref (b 0)), (3, .ref o)]) M dL_law_1014 hl (by decide) rfl (fun ls hl => ?_)
  refine q_aln M dL_law_1016 (lv_at hl 5 rfl) ?_
  refine qc_iV (As := []) (rest := []) (wc := WMod cI cZ b ν2) (wc2 := WMod cI cZ b ν2) (ws2 := WL cI cJ a o f2 μ2 ++ WMod cI cZ b ν2) M w hA hl (m_thrown l D cI cZ cJ b ν2) gL_law_X7_thrown rfl ⟨rfl, rfl, by decide, by decide⟩ ⟨by show cells + 1 ≤ 601024; omega, by show slots + 6 ≤ 7293034; omega⟩ 0 ⟨rfl, by decide +kernel⟩ rfl [false, false, false, false, false, false, false, false, false, false, false, false, false, false, false, false, false, false, false, false, false, false, false, false, false, false, false, false, false, false, false, false, false, false, false, false, false, false, false, false, false, false, false, false, false, false, false, false, false, false, false, true, true, true, true, true, true, true, true, true, true, true, true, true, true, true, true, true, true, true, true, true] rfl rfl 51 rfl rfl rfl (Nat.le_of_ble_eq_true rfl) rfl dL_law_1017 (fun H locs w => ?_)
  refine q_il M dL_law_1020 (lv_at hl 1 rfl) ?_
  refine q_eqE (tgt := 1027) M (by rw [hk0]) dL_law_1022 (by decide) ?_
  refine q_il M dL_law_1027 (lv_at hl 1 rfl) ?_
  refine q_if_ne (tgt := 1044) M dL_law_1029 (by decide) (by omega) (fun c2 => ?_) (fun c2 => ?_)
  · refine q_go (tgt := 1468) M dL_law_1044 (by decide) ?_
    exact kk f2 μ2 ν2 H locs ls _ _ (by show cells + 1 ≤ cells + 5; omega) (by show slots + 6 ≤ slots + 30; omega) hR w (lv_sub hl [2, 3, 4, 5, 6] rfl)
  · refine q_aln M dL_law_1032 (lv_at hl 6 rfl) ?_
    refine q_ic M dL_law_1033 ?_
    refine q_lald0 (f := f2) M w 0 2 rfl rfl dL_law_1034 ?_
    refine q_il M dL_law_1035 (lv_at hl 0 rfl) ?_
    refine q_i2l M dL_law_1037 ?_
    refine q_lcmpE M (hko c2) dL_law_1038 ?_
    refine q_if_eq (tgt := 1044) M dL_law_1039 (by decide) (by omega) (fun c3 => ?_) (fun c3 => absurd rfl c3)
    refine q_go (tgt := 1468) M dL_law_1044 (by decide) ?_
    exact kk f2 μ2 ν2 H locs ls _ _ (by show cells + 1 ≤ cells + 5; omega) (by show slots + 6 ≤ slots + 30; omega) hR w (lv_sub hl [2, 3, 4, 5, 6] rfl)

set_option maxHeartbeats 4000000 in
set_option maxRecDepth 100000 in
theorem law_addToSet {p : Program} {l : Launch} {e : Env} {s : State} {m : MethodId} {below : List Frame} {meth : Method} {c : Code} {Q : State → Prop} {D : va_G} {cI cZ cJ : ClassId} {A : Nat → Prop} {bs L : Nat} {xs : Nat → Int32} (C : lwC l p s m c D cI cZ cJ A bs L xs) {a b : Nat → Nat} {o : Nat} {f : Nat → Int64} {μ ν : Nat → Int → Int} {H : Heap} {locs : List Loc} {ls : Array Slot} {cells slots : Nat} {i : Int} (hi : 0 ≤ i ∧ i + 5 ≤ (L : Int)) (hc : cells + 5 ≤ 601024 ∧ slots + 30 ≤ 7293034) (h : Rel μ ν) (w : lwW D A s.heap cI cZ cJ a b o f μ ν H locs) (hl : lwL ls bs o a b i) (kk : lwK p l e s m below meth c Q D A cI cZ cJ bs a b o i cells slots) : W p l e room_1 s m #[Value.ref bs] below meth c H locs cells slots Q (F0 m 1047 ls []) := by
  obtain ⟨hfl, M, hA, hT, hX, hbl, hbA, hL⟩ := C
  have hl : lv_has ls 7 [(4, .int (iI i)), (0, .ref bs), (1, .ref (a 0)), (2, .ref (b 0)), (3, .ref o)] := hl
  have w : wW D A s.heap (WL cI cJ a o f μ ++ WMod cI cZ b ν) H locs := w
  obtain ⟨k, bz, f2, μ2, ν2, hLc, hCi, hk0, hko, hR, hkr, hpb⟩ := s_addToSet l hfl D cI cZ cJ a b o f μ ν (xZ xs (i + 1)) (xZ_r xs (i + 1)) h
  refine q_aln M dL_law_1047 (lv_at hl 2 rfl) ?_
  refine q_aln M dL_law_1048 (lv_at hl 1 rfl) ?_
  refine q_il M dL_law_1049 (lv_at hl 0 rfl) ?_
  refine q_ic M dL_law_1051 ?_
  refine q_add M dL_law_1052 ?_
  refine q_sld (z := i + 1) M w hX hbl hbA hL (by omega) dL_law_1053 ?_
  refine q_aln M dL_law_1054 (lv_at hl 4 rfl) ?_
  refine qc_L (As := [.ref (a 0), .int (iI (xZ xs (i + 1))), .ref o]) (rest := []) (wc := WL cI cJ a o f μ) (wc2 := WL cI cJ a o f2 μ2) (ws2 := WL cI cJ a o f2 μ2 ++ WMod cI cZ b ν) M w hA hT hl hLc gL_law_L_addToSet rfl ⟨by decide, by decide⟩ ⟨by show cells + 3 ≤ 601024; omega, by show slots + 18 ≤ 7293034; omega⟩ 3 (by decide +kernel) rfl [true, true, true, true, true, true, true, true, true, true, true, true, true, true, true, true, true, true, true, true, true, true, true, true, true, true, true, true, true, true, true, true, true, true, true, true, true, true, true, true, true, true, true, true, true, true, true, true, true, true, true] rfl rfl rfl (Nat.le_of_ble_eq_true rfl) rfl dL_law_1055 (fun H locs w => ?_)
  refine q_is (lv' := [(5, .int (iI k)), (4, .int (iI i)), (0, .ref bs), (1, .ref (a 0)), (2, .ref (b 0)), (3, .ref o)]) M dL_law_1058 hl (by decide) rfl (fun ls hl => ?_)
  refine q_aln M dL_law_1060 (lv_at hl 4 rfl) ?_
  refine q_aln M dL_law_1061 (lv_at hl 2 rfl) ?_
  refine q_il M dL_law_1062 (lv_at hl 1 rfl) ?_
  refine q_ic M dL_law_1064 ?_
  refine q_add M dL_law_1065 ?_
  refine q_sld (z := i + 1) M w hX hbl hbA hL (by omega) dL_law_1066 ?_
  refine qc_iV (As := [.int (iI (xZ xs (i + 1)))]) (rest := []) (wc := WMod cI cZ b ν) (wc2 := WMod cI cZ b ν2) (ws2 := WL cI cJ a o f2 μ2 ++ WMod cI cZ b ν2) M w hA hl hCi gL_law_X7_addToSet rfl ⟨rfl, rfl, by decide, by decide⟩ ⟨by show cells + 3 ≤ 601024; omega, by show slots + 18 ≤ 7293034; omega⟩ 1 ⟨rfl, by decide +kernel⟩ rfl [false, false, false, false, false, false, false, false, false, false, false, false, false, false, false, false, false, false, false, false, false, false, false, false, false, false, false, false, false, false, false, false, false, false, false, false, false, false, false, false, false, false, false, false, false, false, false, false, false, false, false, true, true, true, true, true, true, true, true, true, true, true, true, true, true, true, true, true, true, true, true, true] rfl rfl 51 rfl rfl rfl (Nat.le_of_ble_eq_true rfl) rfl dL_law_1067 (fun H locs w => ?_)
  refine q_is (lv' := [(6, .int (iI bz)), (5, .int (iI k)), (4, .int (iI i)), (0, .ref bs), (1, .ref (a 0)), (2, .ref (b 0)), (3, .ref o)]) M dL_law_1070 hl (by decide) rfl (fun ls hl => ?_)
  refine q_aln M dL_law_1072 (lv_at hl 5 rfl) ?_
  refine qc_iV (As := []) (rest := []) (wc := WMod cI cZ b ν2) (wc2 := WMod cI cZ b ν2) (ws2 := WL cI cJ a o f2 μ2 ++ WMod cI cZ b ν2) M w hA hl (m_thrown l D cI cZ cJ b ν2) gL_law_X7_thrown rfl ⟨rfl, rfl, by decide, by decide⟩ ⟨by show cells + 3 ≤ 601024; omega, by show slots + 18 ≤ 7293034; omega⟩ 0 ⟨rfl, by decide +kernel⟩ rfl [false, false, false, false, false, false, false, false, false, false, false, false, false, false, false, false, false, false, false, false, false, false, false, false, false, false, false, false, false, false, false, false, false, false, false, false, false, false, false, false, false, false, false, false, false, false, false, false, false, false, false, true, true, true, true, true, true, true, true, true, true, true, true, true, true, true, true, true, true, true, true, true] rfl rfl 51 rfl rfl rfl (Nat.le_of_ble_eq_true rfl) rfl dL_law_1073 (fun H locs w => ?_)
  refine q_il M dL_law_1076 (lv_at hl 1 rfl) ?_
  refine q_eqE (tgt := 1083) M (by rw [hk0]) dL_law_1078 (by decide) ?_
  refine q_il M dL_law_1083 (lv_at hl 1 rfl) ?_
  refine q_if_ne (tgt := 1100) M dL_law_1085 (by decide) (by omega) (fun c2 => ?_) (fun c2 => ?_)
  · refine q_go (tgt := 1468) M dL_law_1100 (by decide) ?_
    exact kk f2 μ2 ν2 H locs ls _ _ (by show cells + 3 ≤ cells + 5; omega) (by show slots + 18 ≤ slots + 30; omega) hR w (lv_sub hl [2, 3, 4, 5, 6] rfl)
  · refine q_aln M dL_law_1088 (lv_at hl 6 rfl) ?_
    refine q_ic M dL_law_1089 ?_
    refine q_lald0 (f := f2) M w 0 2 rfl rfl dL_law_1090 ?_
    refine q_il M dL_law_1091 (lv_at hl 0 rfl) ?_
    refine q_i2l M dL_law_1093 ?_
    refine q_lcmpE M (hko c2) dL_law_1094 ?_
    refine q_if_eq (tgt := 1100) M dL_law_1095 (by decide) (by omega) (fun c3 => ?_) (fun c3 => absurd rfl c3)
    refine q_go (tgt := 1468) M dL_law_1100 (by decide) ?_
    exact kk f2 μ2 ν2 H locs ls _ _ (by show cells + 3 ≤ cells + 5; omega) (by show slots + 18 ≤ slots + 30; omega) hR w (lv_sub hl [2, 3, 4, 5, 6] rfl)

set_option maxHeartbeats 4000000 in
set_option maxRecDepth 100000 in
theorem law_clearSet {p : Program} {l : Launch} {e : Env} {s : State} {m : MethodId} {below : List Frame} {meth : Method} {c : Code} {Q : State → Prop} {D : va_G} {cI cZ cJ : ClassId} {A : Nat → Prop} {bs L : Nat} {xs : Nat → Int32} (C : lwC l p s m c D cI cZ cJ A bs L xs) {a b : Nat → Nat} {o : Nat} {f : Nat → Int64} {μ ν : Nat → Int → Int} {H : Heap} {locs : List Loc} {ls : Array Slot} {cells slots : Nat} {i : Int} (hi : 0 ≤ i ∧ i + 5 ≤ (L : Int)) (hc : cells + 5 ≤ 601024 ∧ slots + 30 ≤ 7293034) (h : Rel μ ν) (w : lwW D A s.heap cI cZ cJ a b o f μ ν H locs) (hl : lwL ls bs o a b i) (kk : lwK p l e s m below meth c Q D A cI cZ cJ bs a b o i cells slots) : W p l e room_1 s m #[Value.ref bs] below meth c H locs cells slots Q (F0 m 1103 ls []) := by
  obtain ⟨hfl, M, hA, hT, hX, hbl, hbA, hL⟩ := C
  have hl : lv_has ls 7 [(4, .int (iI i)), (0, .ref bs), (1, .ref (a 0)), (2, .ref (b 0)), (3, .ref o)] := hl
  have w : wW D A s.heap (WL cI cJ a o f μ ++ WMod cI cZ b ν) H locs := w
  obtain ⟨k, bz, f2, μ2, ν2, hLc, hCi, hk0, hko, hR, hkr, hpb⟩ := s_clearSet l hfl D cI cZ cJ a b o f μ ν   h
  refine q_aln M dL_law_1103 (lv_at hl 2 rfl) ?_
  refine q_aln M dL_law_1104 (lv_at hl 4 rfl) ?_
  refine qc_L (As := [.ref (a 0), .ref o]) (rest := []) (wc := WL cI cJ a o f μ) (wc2 := WL cI cJ a o f2 μ2) (ws2 := WL cI cJ a o f2 μ2 ++ WMod cI cZ b ν) M w hA hT hl hLc gL_law_L_clearSet rfl ⟨by decide, by decide⟩ ⟨by show cells + 1 ≤ 601024; omega, by show slots + 6 ≤ 7293034; omega⟩ 2 (by decide +kernel) rfl [true, true, true, true, true, true, true, true, true, true, true, true, true, true, true, true, true, true, true, true, true, true, true, true, true, true, true, true, true, true, true, true, true, true, true, true, true, true, true, true, true, true, true, true, true, true, true, true, true, true, true] rfl rfl rfl (Nat.le_of_ble_eq_true rfl) rfl dL_law_1105 (fun H locs w => ?_)
  refine q_is (lv' := [(5, .int (iI k)), (4, .int (iI i)), (0, .ref bs), (1, .ref (a 0)), (2, .ref (b 0)), (3, .ref o)]) M dL_law_1108 hl (by decide) rfl (fun ls hl => ?_)
  refine q_aln M dL_law_1110 (lv_at hl 4 rfl) ?_
  refine qc_iV (As := []) (rest := []) (wc := WMod cI cZ b ν) (wc2 := WMod cI cZ b ν2) (ws2 := WL cI cJ a o f2 μ2 ++ WMod cI cZ b ν2) M w hA hl hCi gL_law_X7_clearSet rfl ⟨rfl, rfl, by decide, by decide⟩ ⟨by show cells + 1 ≤ 601024; omega, by show slots + 6 ≤ 7293034; omega⟩ 0 ⟨rfl, by decide +kernel⟩ rfl [false, false, false, false, false, false, false, false, false, false, false, false, false, false, false, false, false, false, false, false, false, false, false, false, false, false, false, false, false, false, false, false, false, false, false, false, false, false, false, false, false, false, false, false, false, false, false, false, false, false, false, true, true, true, true, true, true, true, true, true, true, true, true, true, true, true, true, true, true, true, true, true] rfl rfl 51 rfl rfl rfl (Nat.le_of_ble_eq_true rfl) rfl dL_law_1111 (fun H locs w => ?_)
  refine q_is (lv' := [(6, .int (iI bz)), (5, .int (iI k)), (4, .int (iI i)), (0, .ref bs), (1, .ref (a 0)), (2, .ref (b 0)), (3, .ref o)]) M dL_law_1114 hl (by decide) rfl (fun ls hl => ?_)
  refine q_aln M dL_law_1116 (lv_at hl 5 rfl) ?_
  refine qc_iV (As := []) (rest := []) (wc := WMod cI cZ b ν2) (wc2 := WMod cI cZ b ν2) (ws2 := WL cI cJ a o f2 μ2 ++ WMod cI cZ b ν2) M w hA hl (m_thrown l D cI cZ cJ b ν2) gL_law_X7_thrown rfl ⟨rfl, rfl, by decide, by decide⟩ ⟨by show cells + 1 ≤ 601024; omega, by show slots + 6 ≤ 7293034; omega⟩ 0 ⟨rfl, by decide +kernel⟩ rfl [false, false, false, false, false, false, false, false, false, false, false, false, false, false, false, false, false, false, false, false, false, false, false, false, false, false, false, false, false, false, false, false, false, false, false, false, false, false, false, false, false, false, false, false, false, false, false, false, false, false, false, true, true, true, true, true, true, true, true, true, true, true, true, true, true, true, true, true, true, true, true, true] rfl rfl 51 rfl rfl rfl (Nat.le_of_ble_eq_true rfl) rfl dL_law_1117 (fun H locs w => ?_)
  refine q_il M dL_law_1120 (lv_at hl 1 rfl) ?_
  refine q_eqE (tgt := 1127) M (by rw [hk0]) dL_law_1122 (by decide) ?_
  refine q_il M dL_law_1127 (lv_at hl 1 rfl) ?_
  refine q_if_ne (tgt := 1144) M dL_law_1129 (by decide) (by omega) (fun c2 => ?_) (fun c2 => ?_)
  · refine q_go (tgt := 1468) M dL_law_1144 (by decide) ?_
    exact kk f2 μ2 ν2 H locs ls _ _ (by show cells + 1 ≤ cells + 5; omega) (by show slots + 6 ≤ slots + 30; omega) hR w (lv_sub hl [2, 3, 4, 5, 6] rfl)
  · refine q_aln M dL_law_1132 (lv_at hl 6 rfl) ?_
    refine q_ic M dL_law_1133 ?_
    refine q_lald0 (f := f2) M w 0 2 rfl rfl dL_law_1134 ?_
    refine q_il M dL_law_1135 (lv_at hl 0 rfl) ?_
    refine q_i2l M dL_law_1137 ?_
    refine q_lcmpE M (hko c2) dL_law_1138 ?_
    refine q_if_eq (tgt := 1144) M dL_law_1139 (by decide) (by omega) (fun c3 => ?_) (fun c3 => absurd rfl c3)
    refine q_go (tgt := 1468) M dL_law_1144 (by decide) ?_
    exact kk f2 μ2 ν2 H locs ls _ _ (by show cells + 1 ≤ cells + 5; omega) (by show slots + 6 ≤ slots + 30; omega) hR w (lv_sub hl [2, 3, 4, 5, 6] rfl)

set_option maxHeartbeats 4000000 in
set_option maxRecDepth 100000 in
theorem law_start {p : Program} {l : Launch} {e : Env} {s : State} {m : MethodId} {below : List Frame} {meth : Method} {c : Code} {Q : State → Prop} {D : va_G} {cI cZ cJ : ClassId} {A : Nat → Prop} {bs L : Nat} {xs : Nat → Int32} (C : lwC l p s m c D cI cZ cJ A bs L xs) {a b : Nat → Nat} {o : Nat} {f : Nat → Int64} {μ ν : Nat → Int → Int} {H : Heap} {locs : List Loc} {ls : Array Slot} {cells slots : Nat} {i : Int} (hi : 0 ≤ i ∧ i + 5 ≤ (L : Int)) (hc : cells + 5 ≤ 601024 ∧ slots + 30 ≤ 7293034) (h : Rel μ ν) (w : lwW D A s.heap cI cZ cJ a b o f μ ν H locs) (hl : lwL ls bs o a b i) (kk : lwK p l e s m below meth c Q D A cI cZ cJ bs a b o i cells slots) : W p l e room_1 s m #[Value.ref bs] below meth c H locs cells slots Q (F0 m 1147 ls []) := by
  obtain ⟨hfl, M, hA, hT, hX, hbl, hbA, hL⟩ := C
  have hl : lv_has ls 7 [(4, .int (iI i)), (0, .ref bs), (1, .ref (a 0)), (2, .ref (b 0)), (3, .ref o)] := hl
  have w : wW D A s.heap (WL cI cJ a o f μ ++ WMod cI cZ b ν) H locs := w
  obtain ⟨k, bz, f2, μ2, ν2, hLc, hCi, hk0, hko, hR, hkr, hpb⟩ := s_start l hfl D cI cZ cJ a b o f μ ν   h
  refine q_aln M dL_law_1147 (lv_at hl 2 rfl) ?_
  refine q_aln M dL_law_1148 (lv_at hl 4 rfl) ?_
  refine qc_L (As := [.ref (a 0), .ref o]) (rest := []) (wc := WL cI cJ a o f μ) (wc2 := WL cI cJ a o f2 μ2) (ws2 := WL cI cJ a o f2 μ2 ++ WMod cI cZ b ν) M w hA hT hl hLc gL_law_L_start rfl ⟨by decide, by decide⟩ ⟨by show cells + 2 ≤ 601024; omega, by show slots + 12 ≤ 7293034; omega⟩ 2 (by decide +kernel) rfl [true, true, true, true, true, true, true, true, true, true, true, true, true, true, true, true, true, true, true, true, true, true, true, true, true, true, true, true, true, true, true, true, true, true, true, true, true, true, true, true, true, true, true, true, true, true, true, true, true, true, true] rfl rfl rfl (Nat.le_of_ble_eq_true rfl) rfl dL_law_1149 (fun H locs w => ?_)
  refine q_is (lv' := [(5, .int (iI k)), (4, .int (iI i)), (0, .ref bs), (1, .ref (a 0)), (2, .ref (b 0)), (3, .ref o)]) M dL_law_1152 hl (by decide) rfl (fun ls hl => ?_)
  refine q_aln M dL_law_1154 (lv_at hl 4 rfl) ?_
  refine qc_iV (As := []) (rest := []) (wc := WMod cI cZ b ν) (wc2 := WMod cI cZ b ν2) (ws2 := WL cI cJ a o f2 μ2 ++ WMod cI cZ b ν2) M w hA hl hCi gL_law_X7_start rfl ⟨rfl, rfl, by decide, by decide⟩ ⟨by show cells + 2 ≤ 601024; omega, by show slots + 12 ≤ 7293034; omega⟩ 0 ⟨rfl, by decide +kernel⟩ rfl [false, false, false, false, false, false, false, false, false, false, false, false, false, false, false, false, false, false, false, false, false, false, false, false, false, false, false, false, false, false, false, false, false, false, false, false, false, false, false, false, false, false, false, false, false, false, false, false, false, false, false, true, true, true, true, true, true, true, true, true, true, true, true, true, true, true, true, true, true, true, true, true] rfl rfl 51 rfl rfl rfl (Nat.le_of_ble_eq_true rfl) rfl dL_law_1155 (fun H locs w => ?_)
  refine q_is (lv' := [(6, .int (iI bz)), (5, .int (iI k)), (4, .int (iI i)), (0, .ref bs), (1, .ref (a 0)), (2, .ref (b 0)), (3, .ref o)]) M dL_law_1158 hl (by decide) rfl (fun ls hl => ?_)
  refine q_aln M dL_law_1160 (lv_at hl 5 rfl) ?_
  refine qc_iV (As := []) (rest := []) (wc := WMod cI cZ b ν2) (wc2 := WMod cI cZ b ν2) (ws2 := WL cI cJ a o f2 μ2 ++ WMod cI cZ b ν2) M w hA hl (m_thrown l D cI cZ cJ b ν2) gL_law_X7_thrown rfl ⟨rfl, rfl, by decide, by decide⟩ ⟨by show cells + 2 ≤ 601024; omega, by show slots + 12 ≤ 7293034; omega⟩ 0 ⟨rfl, by decide +kernel⟩ rfl [false, false, false, false, false, false, false, false, false, false, false, false, false, false, false, false, false, false, false, false, false, false, false, false, false, false, false, false, false, false, false, false, false, false, false, false, false, false, false, false, false, false, false, false, false, false, false, false, false, false, false, true, true, true, true, true, true, true, true, true, true, true, true, true, true, true, true, true, true, true, true, true] rfl rfl 51 rfl rfl rfl (Nat.le_of_ble_eq_true rfl) rfl dL_law_1161 (fun H locs w => ?_)
  refine q_il M dL_law_1164 (lv_at hl 1 rfl) ?_
  refine q_eqE (tgt := 1171) M (by rw [hk0]) dL_law_1166 (by decide) ?_
  refine q_il M dL_law_1171 (lv_at hl 1 rfl) ?_
  refine q_if_ne (tgt := 1188) M dL_law_1173 (by decide) (by omega) (fun c2 => ?_) (fun c2 => ?_)
  · refine q_go (tgt := 1468) M dL_law_1188 (by decide) ?_
    exact kk f2 μ2 ν2 H locs ls _ _ (by show cells + 2 ≤ cells + 5; omega) (by show slots + 12 ≤ slots + 30; omega) hR w (lv_sub hl [2, 3, 4, 5, 6] rfl)
  · refine q_aln M dL_law_1176 (lv_at hl 6 rfl) ?_
    refine q_ic M dL_law_1177 ?_
    refine q_lald0 (f := f2) M w 0 2 rfl rfl dL_law_1178 ?_
    refine q_il M dL_law_1179 (lv_at hl 0 rfl) ?_
    refine q_i2l M dL_law_1181 ?_
    refine q_lcmpE M (hko c2) dL_law_1182 ?_
    refine q_if_eq (tgt := 1188) M dL_law_1183 (by decide) (by omega) (fun c3 => ?_) (fun c3 => absurd rfl c3)
    refine q_go (tgt := 1468) M dL_law_1188 (by decide) ?_
    exact kk f2 μ2 ν2 H locs ls _ _ (by show cells + 2 ≤ cells + 5; omega) (by show slots + 12 ≤ slots + 30; omega) hR w (lv_sub hl [2, 3, 4, 5, 6] rfl)

set_option maxHeartbeats 4000000 in
set_option maxRecDepth 100000 in
theorem law_tick {p : Program} {l : Launch} {e : Env} {s : State} {m : MethodId} {below : List Frame} {meth : Method} {c : Code} {Q : State → Prop} {D : va_G} {cI cZ cJ : ClassId} {A : Nat → Prop} {bs L : Nat} {xs : Nat → Int32} (C : lwC l p s m c D cI cZ cJ A bs L xs) {a b : Nat → Nat} {o : Nat} {f : Nat → Int64} {μ ν : Nat → Int → Int} {H : Heap} {locs : List Loc} {ls : Array Slot} {cells slots : Nat} {i : Int} (hi : 0 ≤ i ∧ i + 5 ≤ (L : Int)) (hc : cells + 5 ≤ 601024 ∧ slots + 30 ≤ 7293034) (h : Rel μ ν) (w : lwW D A s.heap cI cZ cJ a b o f μ ν H locs) (hl : lwL ls bs o a b i) (kk : lwK p l e s m below meth c Q D A cI cZ cJ bs a b o i cells slots) : W p l e room_1 s m #[Value.ref bs] below meth c H locs cells slots Q (F0 m 1191 ls []) := by
  obtain ⟨hfl, M, hA, hT, hX, hbl, hbA, hL⟩ := C
  have hl : lv_has ls 7 [(4, .int (iI i)), (0, .ref bs), (1, .ref (a 0)), (2, .ref (b 0)), (3, .ref o)] := hl
  have w : wW D A s.heap (WL cI cJ a o f μ ++ WMod cI cZ b ν) H locs := w
  obtain ⟨k, bz, f2, μ2, ν2, hLc, hCi, hk0, hko, hR, hkr, hpb⟩ := s_tick l hfl D cI cZ cJ a b o f μ ν (xZ xs (i + 1)) (xZ_r xs (i + 1)) h
  refine q_aln M dL_law_1191 (lv_at hl 2 rfl) ?_
  refine q_aln M dL_law_1192 (lv_at hl 1 rfl) ?_
  refine q_il M dL_law_1193 (lv_at hl 0 rfl) ?_
  refine q_ic M dL_law_1195 ?_
  refine q_add M dL_law_1196 ?_
  refine q_sld (z := i + 1) M w hX hbl hbA hL (by omega) dL_law_1197 ?_
  refine q_aln M dL_law_1198 (lv_at hl 4 rfl) ?_
  refine qc_L (As := [.ref (a 0), .int (iI (xZ xs (i + 1))), .ref o]) (rest := []) (wc := WL cI cJ a o f μ) (wc2 := WL cI cJ a o f2 μ2) (ws2 := WL cI cJ a o f2 μ2 ++ WMod cI cZ b ν) M w hA hT hl hLc gL_law_L_tick rfl ⟨by decide, by decide⟩ ⟨by show cells + 2 ≤ 601024; omega, by show slots + 12 ≤ 7293034; omega⟩ 3 (by decide +kernel) rfl [true, true, true, true, true, true, true, true, true, true, true, true, true, true, true, true, true, true, true, true, true, true, true, true, true, true, true, true, true, true, true, true, true, true, true, true, true, true, true, true, true, true, true, true, true, true, true, true, true, true, true] rfl rfl rfl (Nat.le_of_ble_eq_true rfl) rfl dL_law_1199 (fun H locs w => ?_)
  refine q_is (lv' := [(5, .int (iI k)), (4, .int (iI i)), (0, .ref bs), (1, .ref (a 0)), (2, .ref (b 0)), (3, .ref o)]) M dL_law_1202 hl (by decide) rfl (fun ls hl => ?_)
  refine q_aln M dL_law_1204 (lv_at hl 4 rfl) ?_
  refine q_aln M dL_law_1205 (lv_at hl 2 rfl) ?_
  refine q_il M dL_law_1206 (lv_at hl 1 rfl) ?_
  refine q_ic M dL_law_1208 ?_
  refine q_add M dL_law_1209 ?_
  refine q_sld (z := i + 1) M w hX hbl hbA hL (by omega) dL_law_1210 ?_
  refine qc_iV (As := [.int (iI (xZ xs (i + 1)))]) (rest := []) (wc := WMod cI cZ b ν) (wc2 := WMod cI cZ b ν2) (ws2 := WL cI cJ a o f2 μ2 ++ WMod cI cZ b ν2) M w hA hl hCi gL_law_X7_tick rfl ⟨rfl, rfl, by decide, by decide⟩ ⟨by show cells + 2 ≤ 601024; omega, by show slots + 12 ≤ 7293034; omega⟩ 1 ⟨rfl, by decide +kernel⟩ rfl [false, false, false, false, false, false, false, false, false, false, false, false, false, false, false, false, false, false, false, false, false, false, false, false, false, false, false, false, false, false, false, false, false, false, false, false, false, false, false, false, false, false, false, false, false, false, false, false, false, false, false, true, true, true, true, true, true, true, true, true, true, true, true, true, true, true, true, true, true, true, true, true] rfl rfl 51 rfl rfl rfl (Nat.le_of_ble_eq_true rfl) rfl dL_law_1211 (fun H locs w => ?_)
  refine q_is (lv' := [(6, .int (iI bz)), (5, .int (iI k)), (4, .int (iI i)), (0, .ref bs), (1, .ref (a 0)), (2, .ref (b 0)), (3, .ref o)]) M dL_law_1214 hl (by decide) rfl (fun ls hl => ?_)
  refine q_aln M dL_law_1216 (lv_at hl 5 rfl) ?_
  refine qc_iV (As := []) (rest := []) (wc := WMod cI cZ b ν2) (wc2 := WMod cI cZ b ν2) (ws2 := WL cI cJ a o f2 μ2 ++ WMod cI cZ b ν2) M w hA hl (m_thrown l D cI cZ cJ b ν2) gL_law_X7_thrown rfl ⟨rfl, rfl, by decide, by decide⟩ ⟨by show cells + 2 ≤ 601024; omega, by show slots + 12 ≤ 7293034; omega⟩ 0 ⟨rfl, by decide +kernel⟩ rfl [false, false, false, false, false, false, false, false, false, false, false, false, false, false, false, false, false, false, false, false, false, false, false, false, false, false, false, false, false, false, false, false, false, false, false, false, false, false, false, false, false, false, false, false, false, false, false, false, false, false, false, true, true, true, true, true, true, true, true, true, true, true, true, true, true, true, true, true, true, true, true, true] rfl rfl 51 rfl rfl rfl (Nat.le_of_ble_eq_true rfl) rfl dL_law_1217 (fun H locs w => ?_)
  refine q_il M dL_law_1220 (lv_at hl 1 rfl) ?_
  refine q_eqE (tgt := 1227) M (by rw [hk0]) dL_law_1222 (by decide) ?_
  refine q_il M dL_law_1227 (lv_at hl 1 rfl) ?_
  refine q_if_ne (tgt := 1244) M dL_law_1229 (by decide) (by omega) (fun c2 => ?_) (fun c2 => ?_)
  · refine q_go (tgt := 1468) M dL_law_1244 (by decide) ?_
    exact kk f2 μ2 ν2 H locs ls _ _ (by show cells + 2 ≤ cells + 5; omega) (by show slots + 12 ≤ slots + 30; omega) hR w (lv_sub hl [2, 3, 4, 5, 6] rfl)
  · refine q_aln M dL_law_1232 (lv_at hl 6 rfl) ?_
    refine q_ic M dL_law_1233 ?_
    refine q_lald0 (f := f2) M w 0 2 rfl rfl dL_law_1234 ?_
    refine q_il M dL_law_1235 (lv_at hl 0 rfl) ?_
    refine q_i2l M dL_law_1237 ?_
    refine q_lcmpE M (hko c2) dL_law_1238 ?_
    refine q_if_eq (tgt := 1244) M dL_law_1239 (by decide) (by omega) (fun c3 => ?_) (fun c3 => absurd rfl c3)
    refine q_go (tgt := 1468) M dL_law_1244 (by decide) ?_
    exact kk f2 μ2 ν2 H locs ls _ _ (by show cells + 2 ≤ cells + 5; omega) (by show slots + 12 ≤ slots + 30; omega) hR w (lv_sub hl [2, 3, 4, 5, 6] rfl)

set_option maxHeartbeats 4000000 in
set_option maxRecDepth 100000 in
theorem law_skip {p : Program} {l : Launch} {e : Env} {s : State} {m : MethodId} {below : List Frame} {meth : Method} {c : Code} {Q : State → Prop} {D : va_G} {cI cZ cJ : ClassId} {A : Nat → Prop} {bs L : Nat} {xs : Nat → Int32} (C : lwC l p s m c D cI cZ cJ A bs L xs) {a b : Nat → Nat} {o : Nat} {f : Nat → Int64} {μ ν : Nat → Int → Int} {H : Heap} {locs : List Loc} {ls : Array Slot} {cells slots : Nat} {i : Int} (hi : 0 ≤ i ∧ i + 5 ≤ (L : Int)) (hc : cells + 5 ≤ 601024 ∧ slots + 30 ≤ 7293034) (h : Rel μ ν) (w : lwW D A s.heap cI cZ cJ a b o f μ ν H locs) (hl : lwL ls bs o a b i) (kk : lwK p l e s m below meth c Q D A cI cZ cJ bs a b o i cells slots) : W p l e room_1 s m #[Value.ref bs] below meth c H locs cells slots Q (F0 m 1247 ls []) := by
  obtain ⟨hfl, M, hA, hT, hX, hbl, hbA, hL⟩ := C
  have hl : lv_has ls 7 [(4, .int (iI i)), (0, .ref bs), (1, .ref (a 0)), (2, .ref (b 0)), (3, .ref o)] := hl
  have w : wW D A s.heap (WL cI cJ a o f μ ++ WMod cI cZ b ν) H locs := w
  obtain ⟨k, bz, f2, μ2, ν2, hLc, hCi, hk0, hko, hR, hkr, hpb⟩ := s_skip l hfl D cI cZ cJ a b o f μ ν   h
  refine q_aln M dL_law_1247 (lv_at hl 2 rfl) ?_
  refine q_aln M dL_law_1248 (lv_at hl 4 rfl) ?_
  refine qc_L (As := [.ref (a 0), .ref o]) (rest := []) (wc := WL cI cJ a o f μ) (wc2 := WL cI cJ a o f2 μ2) (ws2 := WL cI cJ a o f2 μ2 ++ WMod cI cZ b ν) M w hA hT hl hLc gL_law_L_skip rfl ⟨by decide, by decide⟩ ⟨by show cells + 1 ≤ 601024; omega, by show slots + 6 ≤ 7293034; omega⟩ 2 (by decide +kernel) rfl [true, true, true, true, true, true, true, true, true, true, true, true, true, true, true, true, true, true, true, true, true, true, true, true, true, true, true, true, true, true, true, true, true, true, true, true, true, true, true, true, true, true, true, true, true, true, true, true, true, true, true] rfl rfl rfl (Nat.le_of_ble_eq_true rfl) rfl dL_law_1249 (fun H locs w => ?_)
  refine q_is (lv' := [(5, .int (iI k)), (4, .int (iI i)), (0, .ref bs), (1, .ref (a 0)), (2, .ref (b 0)), (3, .ref o)]) M dL_law_1252 hl (by decide) rfl (fun ls hl => ?_)
  refine q_aln M dL_law_1254 (lv_at hl 4 rfl) ?_
  refine qc_iV (As := []) (rest := []) (wc := WMod cI cZ b ν) (wc2 := WMod cI cZ b ν2) (ws2 := WL cI cJ a o f2 μ2 ++ WMod cI cZ b ν2) M w hA hl hCi gL_law_X7_skip rfl ⟨rfl, rfl, by decide, by decide⟩ ⟨by show cells + 1 ≤ 601024; omega, by show slots + 6 ≤ 7293034; omega⟩ 0 ⟨rfl, by decide +kernel⟩ rfl [false, false, false, false, false, false, false, false, false, false, false, false, false, false, false, false, false, false, false, false, false, false, false, false, false, false, false, false, false, false, false, false, false, false, false, false, false, false, false, false, false, false, false, false, false, false, false, false, false, false, false, true, true, true, true, true, true, true, true, true, true, true, true, true, true, true, true, true, true, true, true, true] rfl rfl 51 rfl rfl rfl (Nat.le_of_ble_eq_true rfl) rfl dL_law_1255 (fun H locs w => ?_)
  refine q_is (lv' := [(6, .int (iI bz)), (5, .int (iI k)), (4, .int (iI i)), (0, .ref bs), (1, .ref (a 0)), (2, .ref (b 0)), (3, .ref o)]) M dL_law_1258 hl (by decide) rfl (fun ls hl => ?_)
  refine q_aln M dL_law_1260 (lv_at hl 5 rfl) ?_
  refine qc_iV (As := []) (rest := []) (wc := WMod cI cZ b ν2) (wc2 := WMod cI cZ b ν2) (ws2 := WL cI cJ a o f2 μ2 ++ WMod cI cZ b ν2) M w hA hl (m_thrown l D cI cZ cJ b ν2) gL_law_X7_thrown rfl ⟨rfl, rfl, by decide, by decide⟩ ⟨by show cells + 1 ≤ 601024; omega, by show slots + 6 ≤ 7293034; omega⟩ 0 ⟨rfl, by decide +kernel⟩ rfl [false, false, false, false, false, false, false, false, false, false, false, false, false, false, false, false, false, false, false, false, false, false, false, false, false, false, false, false, false, false, false, false, false, false, false, false, false, false, false, false, false, false, false, false, false, false, false, false, false, false, false, true, true, true, true, true, true, true, true, true, true, true, true, true, true, true, true, true, true, true, true, true] rfl rfl 51 rfl rfl rfl (Nat.le_of_ble_eq_true rfl) rfl dL_law_1261 (fun H locs w => ?_)
  refine q_il M dL_law_1264 (lv_at hl 1 rfl) ?_
  refine q_eqE (tgt := 1271) M (by rw [hk0]) dL_law_1266 (by decide) ?_
  refine q_il M dL_law_1271 (lv_at hl 1 rfl) ?_
  refine q_if_ne (tgt := 1288) M dL_law_1273 (by decide) (by omega) (fun c2 => ?_) (fun c2 => ?_)
  · refine q_go (tgt := 1468) M dL_law_1288 (by decide) ?_
    exact kk f2 μ2 ν2 H locs ls _ _ (by show cells + 1 ≤ cells + 5; omega) (by show slots + 6 ≤ slots + 30; omega) hR w (lv_sub hl [2, 3, 4, 5, 6] rfl)
  · refine q_aln M dL_law_1276 (lv_at hl 6 rfl) ?_
    refine q_ic M dL_law_1277 ?_
    refine q_lald0 (f := f2) M w 0 2 rfl rfl dL_law_1278 ?_
    refine q_il M dL_law_1279 (lv_at hl 0 rfl) ?_
    refine q_i2l M dL_law_1281 ?_
    refine q_lcmpE M (hko c2) dL_law_1282 ?_
    refine q_if_eq (tgt := 1288) M dL_law_1283 (by decide) (by omega) (fun c3 => ?_) (fun c3 => absurd rfl c3)
    refine q_go (tgt := 1468) M dL_law_1288 (by decide) ?_
    exact kk f2 μ2 ν2 H locs ls _ _ (by show cells + 1 ≤ cells + 5; omega) (by show slots + 6 ≤ slots + 30; omega) hR w (lv_sub hl [2, 3, 4, 5, 6] rfl)

set_option maxHeartbeats 4000000 in
set_option maxRecDepth 100000 in
theorem law_place {p : Program} {l : Launch} {e : Env} {s : State} {m : MethodId} {below : List Frame} {meth : Method} {c : Code} {Q : State → Prop} {D : va_G} {cI cZ cJ : ClassId} {A : Nat → Prop} {bs L : Nat} {xs : Nat → Int32} (C : lwC l p s m c D cI cZ cJ A bs L xs) {a b : Nat → Nat} {o : Nat} {f : Nat → Int64} {μ ν : Nat → Int → Int} {H : Heap} {locs : List Loc} {ls : Array Slot} {cells slots : Nat} {i : Int} (hi : 0 ≤ i ∧ i + 5 ≤ (L : Int)) (hc : cells + 5 ≤ 601024 ∧ slots + 30 ≤ 7293034) (h : Rel μ ν) (w : lwW D A s.heap cI cZ cJ a b o f μ ν H locs) (hl : lwL ls bs o a b i) (kk : lwK p l e s m below meth c Q D A cI cZ cJ bs a b o i cells slots) : W p l e room_1 s m #[Value.ref bs] below meth c H locs cells slots Q (F0 m 1291 ls []) := by
  obtain ⟨hfl, M, hA, hT, hX, hbl, hbA, hL⟩ := C
  have hl : lv_has ls 7 [(4, .int (iI i)), (0, .ref bs), (1, .ref (a 0)), (2, .ref (b 0)), (3, .ref o)] := hl
  have w : wW D A s.heap (WL cI cJ a o f μ ++ WMod cI cZ b ν) H locs := w
  obtain ⟨q22, b22, qL, q23, h23⟩ := h.2.2.2.1
  have h21 : ν 21 0 = 0 ∨ ν 21 0 = 1 := by omega
  have ez : (if μ 23 0 = 1 then 100000 * μ 24 0 + 1000 * μ 25 0 + μ 26 0 else -1) = (if ν 21 0 = 1 then 100000 * ν 22 0 + 1000 * (ν 23 0 - ν 18 (ν 22 0)) + ν 24 0 else -1) := Rel_place h
  refine q_aln M dL_law_1291 (lv_at hl 2 rfl) ?_
  refine qc_iV (As := []) (rest := []) (wc := WAll cI a μ) (wc2 := WAll cI a μ) (ws2 := WL cI cJ a o f μ ++ WMod cI cZ b ν) M w hA hl (k_place l D cI cZ cJ a μ h.2.2.2.1.2.2.2.2) gL_law_X6_place rfl ⟨rfl, rfl, by decide, by decide⟩ ⟨by show cells ≤ 601024; omega, by show slots ≤ 7293034; omega⟩ 0 ⟨rfl, by decide +kernel⟩ rfl [false, true, true, true, true, true, true, true, true, true, true, true, true, true, true, true, true, true, true, true, true, true, true, true, true, true, true, true, true, true, true, true, true, true, true, true, true, true, true, true, true, true, true, true, true, true, true, true, true, true, true] rfl rfl 1 rfl rfl rfl (Nat.le_of_ble_eq_true rfl) rfl dL_law_1292 (fun H locs w => ?_)
  refine q_aln M dL_law_1295 (lv_at hl 3 rfl) ?_
  refine qc_iV (As := []) (rest := [.int (iI (if μ 23 0 = 1 then 100000 * μ 24 0 + 1000 * μ 25 0 + μ 26 0 else -1))]) (wc := WMod cI cZ b ν) (wc2 := WMod cI cZ b (mset ν 0 (fun _ => 0))) (ws2 := WL cI cJ a o f μ ++ WMod cI cZ b (mset ν 0 (fun _ => 0))) M w hA hl (m_place l D cI cZ cJ b ν h21 (fun hp => by have q1 := (h.2.2.2.2.2 (by omega)).1.1; have q2 := (h.2.2.2.2.2 (by omega)).1.2.2.1; omega)) gL_law_X7_place rfl ⟨rfl, rfl, by decide, by decide⟩ ⟨by show cells ≤ 601024; omega, by show slots ≤ 7293034; omega⟩ 0 ⟨rfl, by decide +kernel⟩ rfl [false, false, false, false, false, false, false, false, false, false, false, false, false, false, false, false, false, false, false, false, false, false, false, false, false, false, false, false, false, false, false, false, false, false, false, false, false, false, false, false, false, false, false, false, false, false, false, false, false, false, false, true, true, true, true, true, true, true, true, true, true, true, true, true, true, true, true, true, true, true, true, true] rfl rfl 51 rfl rfl rfl (Nat.le_of_ble_eq_true rfl) rfl dL_law_1296 (fun H locs w => ?_)
  refine q_eqE (tgt := 1468) M (by rw [ez]) dL_law_1299 (by decide) ?_
  exact kk f μ _ H locs ls cells slots (by omega) (by omega) (Rel_same h (Same_0 ν _)) w hl

set_option maxHeartbeats 4000000 in
set_option maxRecDepth 100000 in
theorem law_loaded {p : Program} {l : Launch} {e : Env} {s : State} {m : MethodId} {below : List Frame} {meth : Method} {c : Code} {Q : State → Prop} {D : va_G} {cI cZ cJ : ClassId} {A : Nat → Prop} {bs L : Nat} {xs : Nat → Int32} (C : lwC l p s m c D cI cZ cJ A bs L xs) {a b : Nat → Nat} {o : Nat} {f : Nat → Int64} {μ ν : Nat → Int → Int} {H : Heap} {locs : List Loc} {ls : Array Slot} {cells slots : Nat} {i : Int} (hi : 0 ≤ i ∧ i + 5 ≤ (L : Int)) (hc : cells + 5 ≤ 601024 ∧ slots + 30 ≤ 7293034) (h : Rel μ ν) (w : lwW D A s.heap cI cZ cJ a b o f μ ν H locs) (hl : lwL ls bs o a b i) (kk : lwK p l e s m below meth c Q D A cI cZ cJ bs a b o i cells slots) : W p l e room_1 s m #[Value.ref bs] below meth c H locs cells slots Q (F0 m 1304 ls []) := by
  obtain ⟨hfl, M, hA, hT, hX, hbl, hbA, hL⟩ := C
  have hl : lv_has ls 7 [(4, .int (iI i)), (0, .ref bs), (1, .ref (a 0)), (2, .ref (b 0)), (3, .ref o)] := hl
  have w : wW D A s.heap (WL cI cJ a o f μ ++ WMod cI cZ b ν) H locs := w
  obtain ⟨k, bz, f2, μ2, ν2, hLc, hCi, hk0, hko, hR, hkr, hpb⟩ := s_loaded l hfl D cI cZ cJ a b o f μ ν (xZ xs (i + 1)) (xZ_r xs (i + 1)) h
  refine q_aln M dL_law_1304 (lv_at hl 2 rfl) ?_
  refine q_aln M dL_law_1305 (lv_at hl 1 rfl) ?_
  refine q_il M dL_law_1306 (lv_at hl 0 rfl) ?_
  refine q_ic M dL_law_1308 ?_
  refine q_add M dL_law_1309 ?_
  refine q_sld (z := i + 1) M w hX hbl hbA hL (by omega) dL_law_1310 ?_
  refine q_aln M dL_law_1311 (lv_at hl 4 rfl) ?_
  refine qc_L (As := [.ref (a 0), .int (iI (xZ xs (i + 1))), .ref o]) (rest := []) (wc := WL cI cJ a o f μ) (wc2 := WL cI cJ a o f2 μ2) (ws2 := WL cI cJ a o f2 μ2 ++ WMod cI cZ b ν) M w hA hT hl hLc gL_law_L_loaded rfl ⟨by decide, by decide⟩ ⟨by show cells + 1 ≤ 601024; omega, by show slots + 6 ≤ 7293034; omega⟩ 3 (by decide +kernel) rfl [true, true, true, true, true, true, true, true, true, true, true, true, true, true, true, true, true, true, true, true, true, true, true, true, true, true, true, true, true, true, true, true, true, true, true, true, true, true, true, true, true, true, true, true, true, true, true, true, true, true, true] rfl rfl rfl (Nat.le_of_ble_eq_true rfl) rfl dL_law_1312 (fun H locs w => ?_)
  refine q_is (lv' := [(5, .int (iI k)), (4, .int (iI i)), (0, .ref bs), (1, .ref (a 0)), (2, .ref (b 0)), (3, .ref o)]) M dL_law_1315 hl (by decide) rfl (fun ls hl => ?_)
  refine q_aln M dL_law_1317 (lv_at hl 4 rfl) ?_
  refine q_aln M dL_law_1318 (lv_at hl 2 rfl) ?_
  refine q_il M dL_law_1319 (lv_at hl 1 rfl) ?_
  refine q_ic M dL_law_1321 ?_
  refine q_add M dL_law_1322 ?_
  refine q_sld (z := i + 1) M w hX hbl hbA hL (by omega) dL_law_1323 ?_
  refine qc_iV (As := [.int (iI (xZ xs (i + 1)))]) (rest := []) (wc := WMod cI cZ b ν) (wc2 := WMod cI cZ b ν2) (ws2 := WL cI cJ a o f2 μ2 ++ WMod cI cZ b ν2) M w hA hl hCi gL_law_X7_loaded rfl ⟨rfl, rfl, by decide, by decide⟩ ⟨by show cells + 1 ≤ 601024; omega, by show slots + 6 ≤ 7293034; omega⟩ 1 ⟨rfl, by decide +kernel⟩ rfl [false, false, false, false, false, false, false, false, false, false, false, false, false, false, false, false, false, false, false, false, false, false, false, false, false, false, false, false, false, false, false, false, false, false, false, false, false, false, false, false, false, false, false, false, false, false, false, false, false, false, false, true, true, true, true, true, true, true, true, true, true, true, true, true, true, true, true, true, true, true, true, true] rfl rfl 51 rfl rfl rfl (Nat.le_of_ble_eq_true rfl) rfl dL_law_1324 (fun H locs w => ?_)
  refine q_is (lv' := [(6, .int (iI bz)), (5, .int (iI k)), (4, .int (iI i)), (0, .ref bs), (1, .ref (a 0)), (2, .ref (b 0)), (3, .ref o)]) M dL_law_1327 hl (by decide) rfl (fun ls hl => ?_)
  refine q_aln M dL_law_1329 (lv_at hl 5 rfl) ?_
  refine qc_iV (As := []) (rest := []) (wc := WMod cI cZ b ν2) (wc2 := WMod cI cZ b ν2) (ws2 := WL cI cJ a o f2 μ2 ++ WMod cI cZ b ν2) M w hA hl (m_thrown l D cI cZ cJ b ν2) gL_law_X7_thrown rfl ⟨rfl, rfl, by decide, by decide⟩ ⟨by show cells + 1 ≤ 601024; omega, by show slots + 6 ≤ 7293034; omega⟩ 0 ⟨rfl, by decide +kernel⟩ rfl [false, false, false, false, false, false, false, false, false, false, false, false, false, false, false, false, false, false, false, false, false, false, false, false, false, false, false, false, false, false, false, false, false, false, false, false, false, false, false, false, false, false, false, false, false, false, false, false, false, false, false, true, true, true, true, true, true, true, true, true, true, true, true, true, true, true, true, true, true, true, true, true] rfl rfl 51 rfl rfl rfl (Nat.le_of_ble_eq_true rfl) rfl dL_law_1330 (fun H locs w => ?_)
  refine q_il M dL_law_1333 (lv_at hl 1 rfl) ?_
  refine q_eqE (tgt := 1340) M (by rw [hk0]) dL_law_1335 (by decide) ?_
  refine q_il M dL_law_1340 (lv_at hl 1 rfl) ?_
  refine q_if_ne (tgt := 1357) M dL_law_1342 (by decide) (by omega) (fun c2 => ?_) (fun c2 => ?_)
  · refine q_go (tgt := 1468) M dL_law_1357 (by decide) ?_
    exact kk f2 μ2 ν2 H locs ls _ _ (by show cells + 1 ≤ cells + 5; omega) (by show slots + 6 ≤ slots + 30; omega) hR w (lv_sub hl [2, 3, 4, 5, 6] rfl)
  · refine q_aln M dL_law_1345 (lv_at hl 6 rfl) ?_
    refine q_ic M dL_law_1346 ?_
    refine q_lald0 (f := f2) M w 0 2 rfl rfl dL_law_1347 ?_
    refine q_il M dL_law_1348 (lv_at hl 0 rfl) ?_
    refine q_i2l M dL_law_1350 ?_
    refine q_lcmpE M (hko c2) dL_law_1351 ?_
    refine q_if_eq (tgt := 1357) M dL_law_1352 (by decide) (by omega) (fun c3 => ?_) (fun c3 => absurd rfl c3)
    refine q_go (tgt := 1468) M dL_law_1357 (by decide) ?_
    exact kk f2 μ2 ν2 H locs ls _ _ (by show cells + 1 ≤ cells + 5; omega) (by show slots + 6 ≤ slots + 30; omega) hR w (lv_sub hl [2, 3, 4, 5, 6] rfl)

set_option maxHeartbeats 4000000 in
set_option maxRecDepth 100000 in
theorem law_inHand {p : Program} {l : Launch} {e : Env} {s : State} {m : MethodId} {below : List Frame} {meth : Method} {c : Code} {Q : State → Prop} {D : va_G} {cI cZ cJ : ClassId} {A : Nat → Prop} {bs L : Nat} {xs : Nat → Int32} (C : lwC l p s m c D cI cZ cJ A bs L xs) {a b : Nat → Nat} {o : Nat} {f : Nat → Int64} {μ ν : Nat → Int → Int} {H : Heap} {locs : List Loc} {ls : Array Slot} {cells slots : Nat} {i : Int} (hi : 0 ≤ i ∧ i + 5 ≤ (L : Int)) (hc : cells + 5 ≤ 601024 ∧ slots + 30 ≤ 7293034) (h : Rel μ ν) (w : lwW D A s.heap cI cZ cJ a b o f μ ν H locs) (hl : lwL ls bs o a b i) (kk : lwK p l e s m below meth c Q D A cI cZ cJ bs a b o i cells slots) : W p l e room_1 s m #[Value.ref bs] below meth c H locs cells slots Q (F0 m 1360 ls []) := by
  obtain ⟨hfl, M, hA, hT, hX, hbl, hbA, hL⟩ := C
  have hl : lv_has ls 7 [(4, .int (iI i)), (0, .ref bs), (1, .ref (a 0)), (2, .ref (b 0)), (3, .ref o)] := hl
  have w : wW D A s.heap (WL cI cJ a o f μ ++ WMod cI cZ b ν) H locs := w
  obtain ⟨q22, b22, qL, q23, h23⟩ := h.2.2.2.1
  have h21 : ν 21 0 = 0 ∨ ν 21 0 = 1 := by omega
  obtain ⟨r1, r2, r3, -⟩ := h.2.2.2.2.1.1
  have ez : (if μ 28 0 = -1 then -1 else 10 * μ 28 0 + μ 29 0) = (if ν 26 0 = -1 then -1 else 10 * ν 26 0 + ν 27 0) := by
    by_cases q : μ 28 0 = -1
    · rw [if_pos q, if_pos (by omega)]
    · rw [if_neg q, if_neg (by omega), r1, r3 q]
  refine q_aln M dL_law_1360 (lv_at hl 2 rfl) ?_
  refine qc_iV (As := []) (rest := []) (wc := WAll cI a μ) (wc2 := WAll cI a μ) (ws2 := WL cI cJ a o f μ ++ WMod cI cZ b ν) M w hA hl (k_inHand l D cI cZ cJ a μ h.2.2.2.2.1.1.2.1) gL_law_X6_inHand rfl ⟨rfl, rfl, by decide, by decide⟩ ⟨by show cells ≤ 601024; omega, by show slots ≤ 7293034; omega⟩ 0 ⟨rfl, by decide +kernel⟩ rfl [false, true, true, true, true, true, true, true, true, true, true, true, true, true, true, true, true, true, true, true, true, true, true, true, true, true, true, true, true, true, true, true, true, true, true, true, true, true, true, true, true, true, true, true, true, true, true, true, true, true, true] rfl rfl 1 rfl rfl rfl (Nat.le_of_ble_eq_true rfl) rfl dL_law_1361 (fun H locs w => ?_)
  refine q_aln M dL_law_1364 (lv_at hl 3 rfl) ?_
  refine qc_iV (As := []) (rest := [.int (iI (if μ 28 0 = -1 then -1 else 10 * μ 28 0 + μ 29 0))]) (wc := WMod cI cZ b ν) (wc2 := WMod cI cZ b (mset ν 0 (fun _ => 0))) (ws2 := WL cI cJ a o f μ ++ WMod cI cZ b (mset ν 0 (fun _ => 0))) M w hA hl (m_inHand l D cI cZ cJ b ν (by omega)) gL_law_X7_inHand rfl ⟨rfl, rfl, by decide, by decide⟩ ⟨by show cells ≤ 601024; omega, by show slots ≤ 7293034; omega⟩ 0 ⟨rfl, by decide +kernel⟩ rfl [false, false, false, false, false, false, false, false, false, false, false, false, false, false, false, false, false, false, false, false, false, false, false, false, false, false, false, false, false, false, false, false, false, false, false, false, false, false, false, false, false, false, false, false, false, false, false, false, false, false, false, true, true, true, true, true, true, true, true, true, true, true, true, true, true, true, true, true, true, true, true, true] rfl rfl 51 rfl rfl rfl (Nat.le_of_ble_eq_true rfl) rfl dL_law_1365 (fun H locs w => ?_)
  refine q_eqE (tgt := 1468) M (by rw [ez]) dL_law_1368 (by decide) ?_
  exact kk f μ _ H locs ls cells slots (by omega) (by omega) (Rel_same h (Same_0 ν _)) w hl

set_option maxHeartbeats 4000000 in
set_option maxRecDepth 100000 in
theorem law_nextUse {p : Program} {l : Launch} {e : Env} {s : State} {m : MethodId} {below : List Frame} {meth : Method} {c : Code} {Q : State → Prop} {D : va_G} {cI cZ cJ : ClassId} {A : Nat → Prop} {bs L : Nat} {xs : Nat → Int32} (C : lwC l p s m c D cI cZ cJ A bs L xs) {a b : Nat → Nat} {o : Nat} {f : Nat → Int64} {μ ν : Nat → Int → Int} {H : Heap} {locs : List Loc} {ls : Array Slot} {cells slots : Nat} {i : Int} (hi : 0 ≤ i ∧ i + 5 ≤ (L : Int)) (hc : cells + 5 ≤ 601024 ∧ slots + 30 ≤ 7293034) (h : Rel μ ν) (w : lwW D A s.heap cI cZ cJ a b o f μ ν H locs) (hl : lwL ls bs o a b i) (kk : lwK p l e s m below meth c Q D A cI cZ cJ bs a b o i cells slots) : W p l e room_1 s m #[Value.ref bs] below meth c H locs cells slots Q (F0 m 1373 ls []) := by
  obtain ⟨hfl, M, hA, hT, hX, hbl, hbA, hL⟩ := C
  have hl : lv_has ls 7 [(4, .int (iI i)), (0, .ref bs), (1, .ref (a 0)), (2, .ref (b 0)), (3, .ref o)] := hl
  have w : wW D A s.heap (WL cI cJ a o f μ ++ WMod cI cZ b ν) H locs := w
  obtain ⟨k, bz, f2, μ2, ν2, hLc, hCi, hk0, hko, hR, hkr, hpb⟩ := s_nextUse l hfl D cI cZ cJ a b o f μ ν (xZ xs (i + 1)) (xZ_r xs (i + 1)) h
  refine q_aln M dL_law_1373 (lv_at hl 2 rfl) ?_
  refine q_aln M dL_law_1374 (lv_at hl 1 rfl) ?_
  refine q_il M dL_law_1375 (lv_at hl 0 rfl) ?_
  refine q_ic M dL_law_1377 ?_
  refine q_add M dL_law_1378 ?_
  refine q_sld (z := i + 1) M w hX hbl hbA hL (by omega) dL_law_1379 ?_
  refine q_aln M dL_law_1380 (lv_at hl 4 rfl) ?_
  refine qc_L (As := [.ref (a 0), .int (iI (xZ xs (i + 1))), .ref o]) (rest := []) (wc := WL cI cJ a o f μ) (wc2 := WL cI cJ a o f2 μ2) (ws2 := WL cI cJ a o f2 μ2 ++ WMod cI cZ b ν) M w hA hT hl hLc gL_law_L_nextUse rfl ⟨by decide, by decide⟩ ⟨by show cells + 1 ≤ 601024; omega, by show slots + 6 ≤ 7293034; omega⟩ 3 (by decide +kernel) rfl [true, true, true, true, true, true, true, true, true, true, true, true, true, true, true, true, true, true, true, true, true, true, true, true, true, true, true, true, true, true, true, true, true, true, true, true, true, true, true, true, true, true, true, true, true, true, true, true, true, true, true] rfl rfl rfl (Nat.le_of_ble_eq_true rfl) rfl dL_law_1381 (fun H locs w => ?_)
  refine q_is (lv' := [(5, .int (iI k)), (4, .int (iI i)), (0, .ref bs), (1, .ref (a 0)), (2, .ref (b 0)), (3, .ref o)]) M dL_law_1384 hl (by decide) rfl (fun ls hl => ?_)
  refine q_aln M dL_law_1386 (lv_at hl 4 rfl) ?_
  refine q_aln M dL_law_1387 (lv_at hl 2 rfl) ?_
  refine q_il M dL_law_1388 (lv_at hl 1 rfl) ?_
  refine q_ic M dL_law_1390 ?_
  refine q_add M dL_law_1391 ?_
  refine q_sld (z := i + 1) M w hX hbl hbA hL (by omega) dL_law_1392 ?_
  refine qc_iV (As := [.int (iI (xZ xs (i + 1)))]) (rest := []) (wc := WMod cI cZ b ν) (wc2 := WMod cI cZ b ν2) (ws2 := WL cI cJ a o f2 μ2 ++ WMod cI cZ b ν2) M w hA hl hCi gL_law_X7_nextUse rfl ⟨rfl, rfl, by decide, by decide⟩ ⟨by show cells + 1 ≤ 601024; omega, by show slots + 6 ≤ 7293034; omega⟩ 1 ⟨rfl, by decide +kernel⟩ rfl [false, false, false, false, false, false, false, false, false, false, false, false, false, false, false, false, false, false, false, false, false, false, false, false, false, false, false, false, false, false, false, false, false, false, false, false, false, false, false, false, false, false, false, false, false, false, false, false, false, false, false, true, true, true, true, true, true, true, true, true, true, true, true, true, true, true, true, true, true, true, true, true] rfl rfl 51 rfl rfl rfl (Nat.le_of_ble_eq_true rfl) rfl dL_law_1393 (fun H locs w => ?_)
  refine q_is (lv' := [(6, .int (iI bz)), (5, .int (iI k)), (4, .int (iI i)), (0, .ref bs), (1, .ref (a 0)), (2, .ref (b 0)), (3, .ref o)]) M dL_law_1396 hl (by decide) rfl (fun ls hl => ?_)
  refine q_aln M dL_law_1398 (lv_at hl 5 rfl) ?_
  refine qc_iV (As := []) (rest := []) (wc := WMod cI cZ b ν2) (wc2 := WMod cI cZ b ν2) (ws2 := WL cI cJ a o f2 μ2 ++ WMod cI cZ b ν2) M w hA hl (m_thrown l D cI cZ cJ b ν2) gL_law_X7_thrown rfl ⟨rfl, rfl, by decide, by decide⟩ ⟨by show cells + 1 ≤ 601024; omega, by show slots + 6 ≤ 7293034; omega⟩ 0 ⟨rfl, by decide +kernel⟩ rfl [false, false, false, false, false, false, false, false, false, false, false, false, false, false, false, false, false, false, false, false, false, false, false, false, false, false, false, false, false, false, false, false, false, false, false, false, false, false, false, false, false, false, false, false, false, false, false, false, false, false, false, true, true, true, true, true, true, true, true, true, true, true, true, true, true, true, true, true, true, true, true, true] rfl rfl 51 rfl rfl rfl (Nat.le_of_ble_eq_true rfl) rfl dL_law_1399 (fun H locs w => ?_)
  refine q_il M dL_law_1402 (lv_at hl 1 rfl) ?_
  refine q_eqE (tgt := 1409) M (by rw [hk0]) dL_law_1404 (by decide) ?_
  refine q_il M dL_law_1409 (lv_at hl 1 rfl) ?_
  refine q_if_ne (tgt := 1426) M dL_law_1411 (by decide) (by omega) (fun c2 => ?_) (fun c2 => ?_)
  · refine q_go (tgt := 1468) M dL_law_1426 (by decide) ?_
    exact kk f2 μ2 ν2 H locs ls _ _ (by show cells + 1 ≤ cells + 5; omega) (by show slots + 6 ≤ slots + 30; omega) hR w (lv_sub hl [2, 3, 4, 5, 6] rfl)
  · refine q_aln M dL_law_1414 (lv_at hl 6 rfl) ?_
    refine q_ic M dL_law_1415 ?_
    refine q_lald0 (f := f2) M w 0 2 rfl rfl dL_law_1416 ?_
    refine q_il M dL_law_1417 (lv_at hl 0 rfl) ?_
    refine q_i2l M dL_law_1419 ?_
    refine q_lcmpE M (hko c2) dL_law_1420 ?_
    refine q_if_eq (tgt := 1426) M dL_law_1421 (by decide) (by omega) (fun c3 => ?_) (fun c3 => absurd rfl c3)
    refine q_go (tgt := 1468) M dL_law_1426 (by decide) ?_
    exact kk f2 μ2 ν2 H locs ls _ _ (by show cells + 1 ≤ cells + 5; omega) (by show slots + 6 ≤ slots + 30; omega) hR w (lv_sub hl [2, 3, 4, 5, 6] rfl)

set_option maxHeartbeats 4000000 in
set_option maxRecDepth 100000 in
theorem law_sounds {p : Program} {l : Launch} {e : Env} {s : State} {m : MethodId} {below : List Frame} {meth : Method} {c : Code} {Q : State → Prop} {D : va_G} {cI cZ cJ : ClassId} {A : Nat → Prop} {bs L : Nat} {xs : Nat → Int32} (C : lwC l p s m c D cI cZ cJ A bs L xs) {a b : Nat → Nat} {o : Nat} {f : Nat → Int64} {μ ν : Nat → Int → Int} {H : Heap} {locs : List Loc} {ls : Array Slot} {cells slots : Nat} {i : Int} (hi : 0 ≤ i ∧ i + 5 ≤ (L : Int)) (hc : cells + 5 ≤ 601024 ∧ slots + 30 ≤ 7293034) (h : Rel μ ν) (w : lwW D A s.heap cI cZ cJ a b o f μ ν H locs) (hl : lwL ls bs o a b i) (kk : lwK p l e s m below meth c Q D A cI cZ cJ bs a b o i cells slots) : W p l e room_1 s m #[Value.ref bs] below meth c H locs cells slots Q (F0 m 1429 ls []) := by
  obtain ⟨hfl, M, hA, hT, hX, hbl, hbA, hL⟩ := C
  have hl : lv_has ls 7 [(4, .int (iI i)), (0, .ref bs), (1, .ref (a 0)), (2, .ref (b 0)), (3, .ref o)] := hl
  have w : wW D A s.heap (WL cI cJ a o f μ ++ WMod cI cZ b ν) H locs := w
  obtain ⟨q22, b22, qL, q23, h23⟩ := h.2.2.2.1
  have h21 : ν 21 0 = 0 ∨ ν 21 0 = 1 := by omega
  have ez : (μ 31 0) = ν 28 0 := h.2.2.2.2.1.2.1.1
  refine q_aln M dL_law_1429 (lv_at hl 2 rfl) ?_
  refine qc_iV (As := []) (rest := []) (wc := WAll cI a μ) (wc2 := WAll cI a μ) (ws2 := WL cI cJ a o f μ ++ WMod cI cZ b ν) M w hA hl (k_sounds l D cI cZ cJ a μ ) gL_law_X6_sounds rfl ⟨rfl, rfl, by decide, by decide⟩ ⟨by show cells ≤ 601024; omega, by show slots ≤ 7293034; omega⟩ 0 ⟨rfl, by decide +kernel⟩ rfl [false, true, true, true, true, true, true, true, true, true, true, true, true, true, true, true, true, true, true, true, true, true, true, true, true, true, true, true, true, true, true, true, true, true, true, true, true, true, true, true, true, true, true, true, true, true, true, true, true, true, true] rfl rfl 1 rfl rfl rfl (Nat.le_of_ble_eq_true rfl) rfl dL_law_1430 (fun H locs w => ?_)
  refine q_aln M dL_law_1433 (lv_at hl 3 rfl) ?_
  refine qc_iV (As := []) (rest := [.int (iI (μ 31 0))]) (wc := WMod cI cZ b ν) (wc2 := WMod cI cZ b (mset ν 0 (fun _ => 0))) (ws2 := WL cI cJ a o f μ ++ WMod cI cZ b (mset ν 0 (fun _ => 0))) M w hA hl (m_sounds l D cI cZ cJ b ν ) gL_law_X7_sounds rfl ⟨rfl, rfl, by decide, by decide⟩ ⟨by show cells ≤ 601024; omega, by show slots ≤ 7293034; omega⟩ 0 ⟨rfl, by decide +kernel⟩ rfl [false, false, false, false, false, false, false, false, false, false, false, false, false, false, false, false, false, false, false, false, false, false, false, false, false, false, false, false, false, false, false, false, false, false, false, false, false, false, false, false, false, false, false, false, false, false, false, false, false, false, false, true, true, true, true, true, true, true, true, true, true, true, true, true, true, true, true, true, true, true, true, true] rfl rfl 51 rfl rfl rfl (Nat.le_of_ble_eq_true rfl) rfl dL_law_1434 (fun H locs w => ?_)
  refine q_eqE (tgt := 1468) M (by rw [ez]) dL_law_1437 (by decide) ?_
  exact kk f μ _ H locs ls cells slots (by omega) (by omega) (Rel_same h (Same_0 ν _)) w hl

set_option maxHeartbeats 4000000 in
set_option maxRecDepth 100000 in
theorem law_misses {p : Program} {l : Launch} {e : Env} {s : State} {m : MethodId} {below : List Frame} {meth : Method} {c : Code} {Q : State → Prop} {D : va_G} {cI cZ cJ : ClassId} {A : Nat → Prop} {bs L : Nat} {xs : Nat → Int32} (C : lwC l p s m c D cI cZ cJ A bs L xs) {a b : Nat → Nat} {o : Nat} {f : Nat → Int64} {μ ν : Nat → Int → Int} {H : Heap} {locs : List Loc} {ls : Array Slot} {cells slots : Nat} {i : Int} (hi : 0 ≤ i ∧ i + 5 ≤ (L : Int)) (hc : cells + 5 ≤ 601024 ∧ slots + 30 ≤ 7293034) (h : Rel μ ν) (w : lwW D A s.heap cI cZ cJ a b o f μ ν H locs) (hl : lwL ls bs o a b i) (kk : lwK p l e s m below meth c Q D A cI cZ cJ bs a b o i cells slots) : W p l e room_1 s m #[Value.ref bs] below meth c H locs cells slots Q (F0 m 1442 ls []) := by
  obtain ⟨hfl, M, hA, hT, hX, hbl, hbA, hL⟩ := C
  have hl : lv_has ls 7 [(4, .int (iI i)), (0, .ref bs), (1, .ref (a 0)), (2, .ref (b 0)), (3, .ref o)] := hl
  have w : wW D A s.heap (WL cI cJ a o f μ ++ WMod cI cZ b ν) H locs := w
  obtain ⟨q22, b22, qL, q23, h23⟩ := h.2.2.2.1
  have h21 : ν 21 0 = 0 ∨ ν 21 0 = 1 := by omega
  have ez : (μ 32 0) = ν 29 0 := h.2.2.2.2.1.2.1.2.1
  refine q_aln M dL_law_1442 (lv_at hl 2 rfl) ?_
  refine qc_iV (As := []) (rest := []) (wc := WAll cI a μ) (wc2 := WAll cI a μ) (ws2 := WL cI cJ a o f μ ++ WMod cI cZ b ν) M w hA hl (k_misses l D cI cZ cJ a μ ) gL_law_X6_misses rfl ⟨rfl, rfl, by decide, by decide⟩ ⟨by show cells ≤ 601024; omega, by show slots ≤ 7293034; omega⟩ 0 ⟨rfl, by decide +kernel⟩ rfl [false, true, true, true, true, true, true, true, true, true, true, true, true, true, true, true, true, true, true, true, true, true, true, true, true, true, true, true, true, true, true, true, true, true, true, true, true, true, true, true, true, true, true, true, true, true, true, true, true, true, true] rfl rfl 1 rfl rfl rfl (Nat.le_of_ble_eq_true rfl) rfl dL_law_1443 (fun H locs w => ?_)
  refine q_aln M dL_law_1446 (lv_at hl 3 rfl) ?_
  refine qc_iV (As := []) (rest := [.int (iI (μ 32 0))]) (wc := WMod cI cZ b ν) (wc2 := WMod cI cZ b (mset ν 0 (fun _ => 0))) (ws2 := WL cI cJ a o f μ ++ WMod cI cZ b (mset ν 0 (fun _ => 0))) M w hA hl (m_misses l D cI cZ cJ b ν ) gL_law_X7_misses rfl ⟨rfl, rfl, by decide, by decide⟩ ⟨by show cells ≤ 601024; omega, by show slots ≤ 7293034; omega⟩ 0 ⟨rfl, by decide +kernel⟩ rfl [false, false, false, false, false, false, false, false, false, false, false, false, false, false, false, false, false, false, false, false, false, false, false, false, false, false, false, false, false, false, false, false, false, false, false, false, false, false, false, false, false, false, false, false, false, false, false, false, false, false, false, true, true, true, true, true, true, true, true, true, true, true, true, true, true, true, true, true, true, true, true, true] rfl rfl 51 rfl rfl rfl (Nat.le_of_ble_eq_true rfl) rfl dL_law_1447 (fun H locs w => ?_)
  refine q_eqE (tgt := 1468) M (by rw [ez]) dL_law_1450 (by decide) ?_
  exact kk f μ _ H locs ls cells slots (by omega) (by omega) (Rel_same h (Same_0 ν _)) w hl

set_option maxHeartbeats 4000000 in
set_option maxRecDepth 100000 in
theorem law_soundNumber {p : Program} {l : Launch} {e : Env} {s : State} {m : MethodId} {below : List Frame} {meth : Method} {c : Code} {Q : State → Prop} {D : va_G} {cI cZ cJ : ClassId} {A : Nat → Prop} {bs L : Nat} {xs : Nat → Int32} (C : lwC l p s m c D cI cZ cJ A bs L xs) {a b : Nat → Nat} {o : Nat} {f : Nat → Int64} {μ ν : Nat → Int → Int} {H : Heap} {locs : List Loc} {ls : Array Slot} {cells slots : Nat} {i : Int} (hi : 0 ≤ i ∧ i + 5 ≤ (L : Int)) (hc : cells + 5 ≤ 601024 ∧ slots + 30 ≤ 7293034) (h : Rel μ ν) (w : lwW D A s.heap cI cZ cJ a b o f μ ν H locs) (hl : lwL ls bs o a b i) (kk : lwK p l e s m below meth c Q D A cI cZ cJ bs a b o i cells slots) : W p l e room_1 s m #[Value.ref bs] below meth c H locs cells slots Q (F0 m 1455 ls []) := by
  obtain ⟨hfl, M, hA, hT, hX, hbl, hbA, hL⟩ := C
  have hl : lv_has ls 7 [(4, .int (iI i)), (0, .ref bs), (1, .ref (a 0)), (2, .ref (b 0)), (3, .ref o)] := hl
  have w : wW D A s.heap (WL cI cJ a o f μ ++ WMod cI cZ b ν) H locs := w
  obtain ⟨q22, b22, qL, q23, h23⟩ := h.2.2.2.1
  have h21 : ν 21 0 = 0 ∨ ν 21 0 = 1 := by omega
  have ez : (μ 33 0) = ν 30 0 := h.2.2.2.2.1.2.1.2.2
  refine q_aln M dL_law_1455 (lv_at hl 2 rfl) ?_
  refine qc_iV (As := []) (rest := []) (wc := WAll cI a μ) (wc2 := WAll cI a μ) (ws2 := WL cI cJ a o f μ ++ WMod cI cZ b ν) M w hA hl (k_soundNumber l D cI cZ cJ a μ ) gL_law_X6_soundNumber rfl ⟨rfl, rfl, by decide, by decide⟩ ⟨by show cells ≤ 601024; omega, by show slots ≤ 7293034; omega⟩ 0 ⟨rfl, by decide +kernel⟩ rfl [false, true, true, true, true, true, true, true, true, true, true, true, true, true, true, true, true, true, true, true, true, true, true, true, true, true, true, true, true, true, true, true, true, true, true, true, true, true, true, true, true, true, true, true, true, true, true, true, true, true, true] rfl rfl 1 rfl rfl rfl (Nat.le_of_ble_eq_true rfl) rfl dL_law_1456 (fun H locs w => ?_)
  refine q_aln M dL_law_1459 (lv_at hl 3 rfl) ?_
  refine qc_iV (As := []) (rest := [.int (iI (μ 33 0))]) (wc := WMod cI cZ b ν) (wc2 := WMod cI cZ b (mset ν 0 (fun _ => 0))) (ws2 := WL cI cJ a o f μ ++ WMod cI cZ b (mset ν 0 (fun _ => 0))) M w hA hl (m_soundNumber l D cI cZ cJ b ν ) gL_law_X7_soundNumber rfl ⟨rfl, rfl, by decide, by decide⟩ ⟨by show cells ≤ 601024; omega, by show slots ≤ 7293034; omega⟩ 0 ⟨rfl, by decide +kernel⟩ rfl [false, false, false, false, false, false, false, false, false, false, false, false, false, false, false, false, false, false, false, false, false, false, false, false, false, false, false, false, false, false, false, false, false, false, false, false, false, false, false, false, false, false, false, false, false, false, false, false, false, false, false, true, true, true, true, true, true, true, true, true, true, true, true, true, true, true, true, true, true, true, true, true] rfl rfl 51 rfl rfl rfl (Nat.le_of_ble_eq_true rfl) rfl dL_law_1460 (fun H locs w => ?_)
  refine q_eqE (tgt := 1468) M (by rw [ez]) dL_law_1463 (by decide) ?_
  exact kk f μ _ H locs ls cells slots (by omega) (by omega) (Rel_same h (Same_0 ν _)) w hl

set_option maxHeartbeats 4000000 in
set_option maxRecDepth 100000 in
/-- THE LAW'S LOOP, at its head -/
theorem law_loop {p : Program} {l : Launch} {e : Env} {s : State} {m : MethodId} {below : List Frame} {meth : Method} {c : Code} {Q : State → Prop} {D : va_G} {cI cZ cJ : ClassId} {A : Nat → Prop} {bs L : Nat} {xs : Nat → Int32} (C : lwC l p s m c D cI cZ cJ A bs L xs) {a b : Nat → Nat} {o : Nat} (hend : ∀ (H : Heap) (locs : List Loc) (ls : Array Slot) (k n : Nat), k ≤ 601024 → n ≤ 7293034 → va_S A s.heap H locs → W p l e room_1 s m #[Value.ref bs] below meth c H locs k n Q (F0 m 1474 ls [])) :
    ∀ (n j : Nat), L + 1 ≤ j + n → j ≤ L → ∀ (f : Nat → Int64) (μ ν : Nat → Int → Int) (H : Heap) (locs : List Loc) (ls : Array Slot), Rel μ ν → lwW D A s.heap cI cZ cJ a b o f μ ν H locs → lwL ls bs o a b (j : Int) → W p l e room_1 s m #[Value.ref bs] below meth c H locs (200 + j) (60000 + 6 * j) Q (F0 m 23 ls []) := by
  obtain ⟨hfl, M, hA, hT, hX, hbl, hbA, hL⟩ := id C
  intro n
  induction n with
  | zero => intro j h1 h2; exact absurd h1 (by omega)
  | succ n ih =>
    intro j h1 h2 f μ ν H locs ls hRel w hl
    have w0 : wW D A s.heap (WL cI cJ a o f μ ++ WMod cI cZ b ν) H locs := w
    have hl0 : lv_has ls 7 [(4, .int (iI (j : Int))), (0, .ref bs), (1, .ref (a 0)), (2, .ref (b 0)), (3, .ref o)] := hl
    refine q_il M dL_law_23 (lv_at hl0 0 rfl) ?_
    refine q_aln M dL_law_25 (lv_at hl0 1 rfl) ?_
    refine q_slen M w0 hX hbl hbA dL_law_26 ?_
    refine q_ic M dL_law_27 ?_
    refine q_sub M dL_law_28 ?_
    refine q_icmp_gt (tgt := 1474) M dL_law_29 (by decide) (by omega) (fun c1 => ?_) (fun c1 => ?_)
    · exact hend H locs ls _ _ (by omega) (by omega) w0.2.2
    · have hi : 0 ≤ (j : Int) ∧ (j : Int) + 5 ≤ (L : Int) := by omega
      have hc : (200 + j) + 5 ≤ 601024 ∧ (60000 + 6 * j) + 30 ≤ 7293034 := by omega
      have J : lwK p l e s m below meth c Q D A cI cZ cJ bs a b o (j : Int) (200 + j) (60000 + 6 * j) := by
        intro f2 μ2 ν2 H2 locs2 ls2 k2 n2 hk2 hn2 hR2 w2 hl2
        refine W.widen (k := 200 + (j + 5)) (n := 60000 + 6 * (j + 5)) (by omega) (by omega) ?_
        have hl3 : lv_has ls2 7 [(4, .int (iI (j : Int))), (0, .ref bs), (1, .ref (a 0)), (2, .ref (b 0)), (3, .ref o)] := hl2
        refine q_inc (z := (j : Int)) (lv' := [(4, .int (iI ((j : Int) + 5))), (0, .ref bs), (1, .ref (a 0)), (2, .ref (b 0)), (3, .ref o)]) M dL_law_1468 hl3 (k := 0) rfl (by decide) rfl (fun ls hl => ?_)
        refine q_go (tgt := 23) M dL_law_1471 (by decide) ?_
        have ej : (((j + 5 : Nat)) : Int) = (j : Int) + 5 := by omega
        refine ih (j + 5) (by omega) (by omega) f2 μ2 ν2 H2 locs2 ls hR2 w2 ?_
        show lv_has ls 7 [(4, .int (iI ((j + 5 : Nat) : Int))), (0, .ref bs), (1, .ref (a 0)), (2, .ref (b 0)), (3, .ref o)]
        rw [ej]
        exact hl
      refine q_aln M dL_law_32 (lv_at hl0 1 rfl) ?_
      refine q_il M dL_law_33 (lv_at hl0 0 rfl) ?_
      refine q_sld (z := (j : Int)) M w0 hX hbl hbA hL (by omega) dL_law_35 ?_
      refine q_bp M dL_law_36 (by decide +kernel) ?_
      refine lv_iand M.1.1 M.1.2.1 dL_law_38 ?_
      refine lv_topi (fun v hv => ?_)
      by_cases hd : v.toInt < 0 ∨ 23 < v.toInt
      · refine lv_tableOut (tgt := 1468) M.1.1 M.1.2.1 dL_law_39 hd (by decide) ?_
        exact J f μ ν H locs ls _ _ (by omega) (by omega) hRel w hl
      · have hcase : v.toInt = 0 ∨ v.toInt = 1 ∨ v.toInt = 2 ∨ v.toInt = 3 ∨ v.toInt = 4 ∨ v.toInt = 5 ∨ v.toInt = 6 ∨ v.toInt = 7 ∨ v.toInt = 8 ∨ v.toInt = 9 ∨ v.toInt = 10 ∨ v.toInt = 11 ∨ v.toInt = 12 ∨ v.toInt = 13 ∨ v.toInt = 14 ∨ v.toInt = 15 ∨ v.toInt = 16 ∨ v.toInt = 17 ∨ v.toInt = 18 ∨ v.toInt = 19 ∨ v.toInt = 20 ∨ v.toInt = 21 ∨ v.toInt = 22 ∨ v.toInt = 23 := by omega
        rcases hcase with hq | hq | hq | hq | hq | hq | hq | hq | hq | hq | hq | hq | hq | hq | hq | hq | hq | hq | hq | hq | hq | hq | hq | hq
        · refine lv_tableIn (off := 109) (tgt := 148) M.1.1 M.1.2.1 dL_law_39 (by omega) (by omega) (by rw [hq]; rfl) (by decide) ?_
          exact law_setSize C hi hc hRel w hl J
        · refine lv_tableIn (off := 177) (tgt := 216) M.1.1 M.1.2.1 dL_law_39 (by omega) (by omega) (by rw [hq]; rfl) (by decide) ?_
          exact law_tune C hi hc hRel w hl J
        · refine lv_tableIn (off := 245) (tgt := 284) M.1.1 M.1.2.1 dL_law_39 (by omega) (by omega) (by rw [hq]; rfl) (by decide) ?_
          exact law_setStep C hi hc hRel w hl J
        · refine lv_tableIn (off := 337) (tgt := 376) M.1.1 M.1.2.1 dL_law_39 (by omega) (by omega) (by rw [hq]; rfl) (by decide) ?_
          exact law_setFill C hi hc hRel w hl J
        · refine lv_tableIn (off := 429) (tgt := 468) M.1.1 M.1.2.1 dL_law_39 (by omega) (by omega) (by rw [hq]; rfl) (by decide) ?_
          exact law_setFeel C hi hc hRel w hl J
        · refine lv_tableIn (off := 509) (tgt := 548) M.1.1 M.1.2.1 dL_law_39 (by omega) (by omega) (by rw [hq]; rfl) (by decide) ?_
          exact law_freeze C hi hc hRel w hl J
        · refine lv_tableIn (off := 600) (tgt := 639) M.1.1 M.1.2.1 dL_law_39 (by omega) (by omega) (by rw [hq]; rfl) (by decide) ?_
          exact law_addEntry C hi hc hRel w hl J
        · refine lv_tableIn (off := 680) (tgt := 719) M.1.1 M.1.2.1 dL_law_39 (by omega) (by omega) (by rw [hq]; rfl) (by decide) ?_
          exact law_jump C hi hc hRel w hl J
        · refine lv_tableIn (off := 772) (tgt := 811) M.1.1 M.1.2.1 dL_law_39 (by omega) (by omega) (by rw [hq]; rfl) (by decide) ?_
          exact law_bars C hi hc hRel w hl J
        · refine lv_tableIn (off := 828) (tgt := 867) M.1.1 M.1.2.1 dL_law_39 (by omega) (by omega) (by rw [hq]; rfl) (by decide) ?_
          exact law_barAt C hi hc hRel w hl J
        · refine lv_tableIn (off := 896) (tgt := 935) M.1.1 M.1.2.1 dL_law_39 (by omega) (by omega) (by rw [hq]; rfl) (by decide) ?_
          exact law_beats C hi hc hRel w hl J
        · refine lv_tableIn (off := 952) (tgt := 991) M.1.1 M.1.2.1 dL_law_39 (by omega) (by omega) (by rw [hq]; rfl) (by decide) ?_
          exact law_beatsByTicks C hi hc hRel w hl J
        · refine lv_tableIn (off := 1008) (tgt := 1047) M.1.1 M.1.2.1 dL_law_39 (by omega) (by omega) (by rw [hq]; rfl) (by decide) ?_
          exact law_addToSet C hi hc hRel w hl J
        · refine lv_tableIn (off := 1064) (tgt := 1103) M.1.1 M.1.2.1 dL_law_39 (by omega) (by omega) (by rw [hq]; rfl) (by decide) ?_
          exact law_clearSet C hi hc hRel w hl J
        · refine lv_tableIn (off := 1108) (tgt := 1147) M.1.1 M.1.2.1 dL_law_39 (by omega) (by omega) (by rw [hq]; rfl) (by decide) ?_
          exact law_start C hi hc hRel w hl J
        · refine lv_tableIn (off := 1152) (tgt := 1191) M.1.1 M.1.2.1 dL_law_39 (by omega) (by omega) (by rw [hq]; rfl) (by decide) ?_
          exact law_tick C hi hc hRel w hl J
        · refine lv_tableIn (off := 1208) (tgt := 1247) M.1.1 M.1.2.1 dL_law_39 (by omega) (by omega) (by rw [hq]; rfl) (by decide) ?_
          exact law_skip C hi hc hRel w hl J
        · refine lv_tableIn (off := 1252) (tgt := 1291) M.1.1 M.1.2.1 dL_law_39 (by omega) (by omega) (by rw [hq]; rfl) (by decide) ?_
          exact law_place C hi hc hRel w hl J
        · refine lv_tableIn (off := 1265) (tgt := 1304) M.1.1 M.1.2.1 dL_law_39 (by omega) (by omega) (by rw [hq]; rfl) (by decide) ?_
          exact law_loaded C hi hc hRel w hl J
        · refine lv_tableIn (off := 1321) (tgt := 1360) M.1.1 M.1.2.1 dL_law_39 (by omega) (by omega) (by rw [hq]; rfl) (by decide) ?_
          exact law_inHand C hi hc hRel w hl J
        · refine lv_tableIn (off := 1334) (tgt := 1373) M.1.1 M.1.2.1 dL_law_39 (by omega) (by omega) (by rw [hq]; rfl) (by decide) ?_
          exact law_nextUse C hi hc hRel w hl J
        · refine lv_tableIn (off := 1390) (tgt := 1429) M.1.1 M.1.2.1 dL_law_39 (by omega) (by omega) (by rw [hq]; rfl) (by decide) ?_
          exact law_sounds C hi hc hRel w hl J
        · refine lv_tableIn (off := 1403) (tgt := 1442) M.1.1 M.1.2.1 dL_law_39 (by omega) (by omega) (by rw [hq]; rfl) (by decide) ?_
          exact law_misses C hi hc hRel w hl J
        · refine lv_tableIn (off := 1416) (tgt := 1455) M.1.1 M.1.2.1 dL_law_39 (by omega) (by omega) (by rw [hq]; rfl) (by decide) ?_
          exact law_soundNumber C hi hc hRel w hl J
