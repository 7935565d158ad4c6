/-! THE LAW'S OWN CALLS: each calls the class, and answers which exception came -/
def jL (z : Int) : Int64 := (iI z).toInt64
def fU (f : Nat → Int64) (z : Int) : Nat → Int64 := fun j => if j = 0 then jL z else f j
def WL (cI cJ : ClassId) (a : Nat → Nat) (o : Nat) (f : Nat → Int64) (μ : Nat → Int → Int) : va_W := (o, .inl (cJ, 1, .inr (.inl f))) :: WAll cI a μ
def Lc (l : Launch) (D : va_G) (tys : List (ClassId × FieldType)) (y : MethodName) (wds : List Cond) (rm : Room) (av : List Value) (ws : va_W) (k : Int) (ws2 : va_W) : Prop :=
  ∀ sz : Nat, Met l y wds rm (va_Pc av (qXB D tys ws sz)) (va_Qi (fun (r : Int32) (_ : Unit) => r = iI k) (fun _ t => va_P D vwCl ws2 t.heap) (va_A ws sz)) rm.cells rm.slots (va_A ws sz)
def LK (ex : Option String) (k1 k2 k3 z k : Int) (f f2 : Nat → Int64) (μ μp μ2 : Nat → Int → Int) : Prop :=
  (ex = none ∧ k = 0 ∧ f2 = fU f z ∧ μ2 = μp) ∨ (ex = some eIOB ∧ k = k1 ∧ k1 ≠ 0 ∧ f2 = f ∧ μ2 = μ) ∨ (ex = some eIAE ∧ k = k2 ∧ k2 ≠ 0 ∧ f2 = f ∧ μ2 = μ) ∨ (ex = some eISE ∧ k = k3 ∧ k3 ≠ 0 ∧ f2 = f ∧ μ2 = μ)
theorem ql_of {l : Launch} {D : va_G} {tys : List (ClassId × FieldType)} {y : MethodName} {wds wds' : List Cond} {rm : Room} {av : List Value} {ws ws2 : va_W} {k : Int} {cc : ByteArray} {maxL : Nat} {hh : List (Nat × Nat × Nat × Nat)} (hy : plainName y.cls = true) (hw : wds = Cond.codeWith y cc maxL (some .int) hh :: wds') (hlen : (lg_sl av).length ≤ maxL)
    (body : ∀ (p : Program) (e : Env) (s : State) (m : MethodId) (args : Array Value) (below : List Frame) (meth : Method) (c : Code) (A : Nat → Prop) (Q : State → Prop) (ls : Array Slot), qM p m c cc maxL s args wds y.cls D tys → (∀ q : Nat, s.heap.size ≤ q → A q) → wW D A s.heap ws s.heap [] → lv_has ls maxL (lv_args 0 av) → qT A s s.heap → c.exceptionTable.toList = tableOf hh →
      (∀ (pc : Nat) (ls1 : Array Slot) (H1 : Heap) (locs1 : List Loc) (z1 : Int) (k9 n9 : Nat), k9 ≤ rm.cells → n9 ≤ rm.slots → decode cc pc = .ok (.ireturn, 1) → wW D A s.heap ws2 H1 locs1 → z1 = k → W p l e rm s m args below meth c H1 locs1 k9 n9 Q (F0 m pc ls1 [.int (iI z1)])) →
      W p l e rm s m args below meth c s.heap [] 0 0 Q (F0 m 0 ls [])) : Lc l D tys y wds rm av ws k ws2 := by
  intro sz
  refine va_MetW (hh := hh) (cc := cc) (maxL := maxL) (ret := some .int) hy hw ?_
  intro p e s m args below meth c s₁ B hml hv
  obtain ⟨rfl, ⟨hsz, hP, hK, hD0⟩, hT⟩ := hv
  have hlocks := B.notSynchronized
  subst hsz
  rw [lg_entry_eq]
  have hl := lv_entry av (n := maxL) hlen
  have hts := atoms_spec (ws := wds) B.pre
  refine body p e s m _ below meth c (va_A ws s.heap.size) _ _ ⟨⟨B.exec, B.bytes, hml, findClass_of_methodNamed B.named, hts⟩, hK⟩ (fun q h => Or.inr h) ⟨hP, hD0.self, va_S.rf⟩ hl hT (vx_table (x := y) B (hts _ (by rw [hw]; exact List.mem_cons_self))) ?_
  intro pc ls1 H1 locs1 z1 k9 n9 hk hn hdg w1 hz
  subst hz
  exact W.widen (k := rm.cells) (n := rm.slots) hk hn (W.iret B.exec B.bytes B.returns (fun t ht _ => ⟨⟨_, (), rfl, rfl, by show va_P D vwCl ws2 t.heap; rw [ht]; exact w1.1⟩, w1.2.2.F ht⟩) w1.2.2.2.2 hdg)
section QL
variable {p : Program} {l : Launch} {e : Env} {R : Room} {s : State} {m : MethodId} {args : Array Value} {below : List Frame} {meth : Method} {c : Code} {H : Heap} {locs : List Loc} {cells slots : Nat} {Q : State → Prop} {cc : ByteArray} {nL pc : Nat} {ls : Array Slot} {rest : List Value} {Ts : List Cond} {own : String} {D : va_G} {tys : List (ClassId × FieldType)} {A : Nat → Prop} {H0 : Heap} {ws : va_W} {a : Nat}
theorem q_i2l (M : qM p m c cc nL s args Ts own D tys) {z : Int} (hdg : decode cc pc = .ok (.i2l, 1)) (kk : W p l e R s m args below meth c H locs cells slots Q (F0 m (pc + 1) ls (.long (jL z) :: rest))) : W p l e R s m args below meth c H locs cells slots Q (F0 m pc ls (.int (iI z) :: rest)) := lv_i2l M.1.1 M.1.2.1 hdg rfl kk
theorem q_lc (M : qM p m c cc nL s args Ts own D tys) {n : Fin 2} {z : Int} (hdg : decode cc pc = .ok (.lconst n, 1)) (hz : Int64.ofNat (n : Nat) = jL z) (kk : W p l e R s m args below meth c H locs cells slots Q (F0 m (pc + 1) ls (.long (jL z) :: rest))) : W p l e R s m args below meth c H locs cells slots Q (F0 m pc ls rest) := lv_lconst M.1.1 M.1.2.1 hdg hz kk
theorem q_last0 (M : qM p m c cc nL s args Ts own D tys) (w : wW D A H0 ws H locs) (q0 t0 : Nat) {cA : ClassId} {f : Nat → Int64} (ha : ws[q0]? = some (a, .inl (cA, 1, .inr (.inl f)))) (ht : tys[t0]? = some (cA, .long)) {z : Int} {ws2 : va_W} (h2 : ws.set q0 (a, .inl (cA, 1, .inr (.inl (fU f z)))) = ws2) (hdg : decode cc pc = .ok (.lastore, 1))
    (kk : ∀ (H1 : Heap) (locs1 : List Loc), wW D A H0 ws2 H1 locs1 → W p l e R s m args below meth c H1 locs1 cells slots Q (F0 m (pc + 1) ls rest)) : W p l e R s m args below meth c H locs cells slots Q (F0 m pc ls (.long (jL z) :: .int (iI 0) :: .ref a :: rest)) := by
  subst h2
  have e0 : (iI 0).toNatClampNeg = 0 := by decide +kernel
  refine va_last M.1.1 M.1.2.1 M.2 w.1 w.2.1 w.2.2 q0 t0 ha ht (iI_in ⟨by omega, by omega⟩ (by omega)) hdg (fun H1 locs1 g1 g2 g3 => ?_)
  rw [e0] at g1 g2
  exact kk H1 locs1 ⟨g1, g2, g3⟩
theorem q_lald0 (M : qM p m c cc nL s args Ts own D tys) (w : wW D A H0 ws H locs) (q0 t0 : Nat) {cA : ClassId} {f : Nat → Int64} (ha : ws[q0]? = some (a, .inl (cA, 1, .inr (.inl f)))) (ht : tys[t0]? = some (cA, .long)) (hdg : decode cc pc = .ok (.laload, 1))
    (kk : W p l e R s m args below meth c H locs cells slots Q (F0 m (pc + 1) ls (.long (f 0) :: rest))) : W p l e R s m args below meth c H locs cells slots Q (F0 m pc ls (.int (iI 0) :: .ref a :: rest)) := by
  have e0 : (iI 0).toNatClampNeg = 0 := by decide +kernel
  refine va_lald M.1.1 M.1.2.1 M.2 w.1 q0 t0 ha ht (iI_in ⟨by omega, by omega⟩ (by omega)) hdg ?_
  rw [e0]
  exact kk
end QL

set_option maxHeartbeats 4000000 in
set_option maxRecDepth 100000 in
theorem l_setSize (l : Launch) (hfl : l.stackTraces = false) (D : va_G) (cI cZ cJ : ClassId) (a : Nat → Nat) (μ : Nat → Int → Int) (o : Nat) (f : Nat → Int64) (s v : Int) (hs : -2147483648 ≤ s ∧ s < 2147483648) (hv : -2147483648 ≤ v ∧ v < 2147483648) (h23 : μ 23 0 = 0 ∨ μ 23 0 = 1) (k : Int) (f2 : Nat → Int64) (μ2 : Nat → Int → Int) (hk : LK (sq (chk (0 ≤ s ∧ s ≤ 7) eIOB) (sq (chk (1 ≤ v ∧ v ≤ 6) eIAE) (chk (μ 23 0 = 0) eISE))) 1 2 3 (μ 0 s) k f f2 μ (mset μ 0 (iU (μ 0) s v)) μ2) : Lc l D (tY cI cZ cJ) yL_setSize wsL_setSize rmL_setSize [.ref (a 0), .int (iI s), .int (iI v), .ref o] (WL cI cJ a o f μ) k (WL cI cJ a o f2 μ2) := by
  refine ql_of (by decide +kernel) rfl (Nat.le_of_ble_eq_true rfl) ?_
  intro zp ze zs zm zargs zbelow zmeth zc A Q ls M hA w hl hT htab kret
  have hl : lv_has ls 5 [(0, .ref (a 0)), (1, .int (iI s)), (2, .int (iI v)), (3, .ref o)] := hl
  refine q_aln M dL_setSize_0 (lv_at hl 3 rfl) ?_
  refine q_ic M dL_setSize_1 ?_
  refine q_aln M dL_setSize_2 (lv_at hl 0 rfl) ?_
  refine q_iln M dL_setSize_3 (lv_at hl 1 rfl) ?_
  refine q_iln M dL_setSize_4 (lv_at hl 2 rfl) ?_
  refine qx_iV (As := [.int (iI s), .int (iI v)]) (rest := [.int (iI 0), .ref o]) (wc := WAll cI a μ) (wc2 := WAll cI a (mset μ 0 (iU (μ 0) s v))) (ws2 := WL cI cJ a o f (mset μ 0 (iU (μ 0) s v))) M w hA hT hl (k_setSize l hfl D cI cZ cJ a μ s v hs hv h23) gL_setSize_X6_setSize rfl ⟨by decide, by decide⟩ ⟨by decide, by decide⟩ 2 ⟨rfl, by decide +kernel⟩ rfl [false, true, true, true, true, true, true, true, true, true, true, true, true, true, true, true, true, true, true, true, true, true, true, true, true, true, true, true, true, true, true, true, true, true, true, true, true, true, true, true, true, true, true, true, true, true, true, true, true, true, true] rfl rfl 1 rfl rfl rfl (Nat.le_of_ble_eq_true rfl) rfl dL_setSize_5 (fun E ce q9 H1 locs1 hE w h1 h2 h3 => ?_) (fun H locs hE w => ?_)
  · rcases hk with ⟨h0, -⟩ | ⟨h0, hk1, hk2, rfl, rfl⟩ | ⟨h0, hk1, hk2, rfl, rfl⟩ | ⟨h0, hk1, hk2, rfl, rfl⟩
    · rw [h0] at hE; cases hE
    · rw [h0] at hE
      cases hE
      refine vx_catch M.1.2.2.2.1 [] ⟨0, 10, 13, 13⟩ [⟨0, 10, 17, 15⟩, ⟨0, 10, 21, 17⟩] htab (fun z hz => nomatch hz) (by decide) (by decide) (M.1.2.2.2.2 (.classLink RL 13 eIOB) (by decide +kernel)) (va_Nw.use rfl hT.2.2.2.1.1) h1 h2 h3 ?_
      refine q_as (lv' := [(4, .ref q9), (0, .ref (a 0)), (1, .int (iI s)), (2, .int (iI v)), (3, .ref o)]) M dL_setSize_13 hl (by decide) rfl (fun ls hl => ?_)
      refine q_ic M dL_setSize_15 ?_
      exact kret _ _ _ _ _ _ _ (by decide) (by decide) dL_setSize_16 w hk1.symm
    · rw [h0] at hE
      cases hE
      refine vx_catch M.1.2.2.2.1 [⟨0, 10, 13, 13⟩] ⟨0, 10, 17, 15⟩ [⟨0, 10, 21, 17⟩] htab (fun z hz => by rcases List.mem_singleton.mp hz with rfl; exact Or.inr ⟨by decide, eIOB, M.1.2.2.2.2 (.classLink RL 13 eIOB) (by decide +kernel), hT.2.2.2.2.1.1⟩) (by decide) (by decide) (M.1.2.2.2.2 (.classLink RL 15 eIAE) (by decide +kernel)) (va_Nw.use rfl hT.2.2.2.1.2.1) h1 h2 h3 ?_
      refine q_as (lv' := [(4, .ref q9), (0, .ref (a 0)), (1, .int (iI s)), (2, .int (iI v)), (3, .ref o)]) M dL_setSize_17 hl (by decide) rfl (fun ls hl => ?_)
      refine q_ic M dL_setSize_19 ?_
      exact kret _ _ _ _ _ _ _ (by decide) (by decide) dL_setSize_20 w hk1.symm
    · rw [h0] at hE
      cases hE
      refine vx_catch M.1.2.2.2.1 [⟨0, 10, 13, 13⟩, ⟨0, 10, 17, 15⟩] ⟨0, 10, 21, 17⟩ [] htab (fun z hz => by rcases List.mem_cons.mp hz with rfl | hz; exact Or.inr ⟨by decide, eIOB, M.1.2.2.2.2 (.classLink RL 13 eIOB) (by decide +kernel), hT.2.2.2.2.1.2.1⟩; rcases List.mem_singleton.mp hz with rfl; exact Or.inr ⟨by decide, eIAE, M.1.2.2.2.2 (.classLink RL 15 eIAE) (by decide +kernel), hT.2.2.2.2.1.2.2⟩) (by decide) (by decide) (M.1.2.2.2.2 (.classLink RL 17 eISE) (by decide +kernel)) (va_Nw.use rfl hT.2.2.2.1.2.2) h1 h2 h3 ?_
      refine q_as (lv' := [(4, .ref q9), (0, .ref (a 0)), (1, .int (iI s)), (2, .int (iI v)), (3, .ref o)]) M dL_setSize_21 hl (by decide) rfl (fun ls hl => ?_)
      refine q_ic M dL_setSize_23 ?_
      exact kret _ _ _ _ _ _ _ (by decide) (by decide) dL_setSize_24 w hk1.symm
  · rcases hk with ⟨-, hk1, hf2, hm2⟩ | ⟨h0, -⟩ | ⟨h0, -⟩ | ⟨h0, -⟩
    · refine q_i2l M dL_setSize_8 ?_
      refine q_last0 (f := f) (z := μ 0 s) (ws2 := WL cI cJ a o (fU f (μ 0 s)) (mset μ 0 (iU (μ 0) s v))) M w 0 2 rfl rfl rfl dL_setSize_9 (fun H locs w => ?_)
      refine q_go (tgt := 25) M dL_setSize_10 (by decide) ?_
      refine q_ic M dL_setSize_25 ?_
      exact kret _ _ _ _ _ _ _ (by decide) (by decide) dL_setSize_26 (by rw [hf2, hm2]; exact w) hk1.symm
    · rw [h0] at hE; cases hE
    · rw [h0] at hE; cases hE
    · rw [h0] at hE; cases hE

set_option maxHeartbeats 4000000 in
set_option maxRecDepth 100000 in
theorem l_tune (l : Launch) (hfl : l.stackTraces = false) (D : va_G) (cI cZ cJ : ClassId) (a : Nat → Nat) (μ : Nat → Int → Int) (o : Nat) (f : Nat → Int64) (s v : Int) (hs : -2147483648 ≤ s ∧ s < 2147483648) (hv : -2147483648 ≤ v ∧ v < 2147483648) (k : Int) (f2 : Nat → Int64) (μ2 : Nat → Int → Int) (hk : LK (sq (chk (0 ≤ s ∧ s ≤ 7) eIOB) (chk (-12 ≤ v ∧ v ≤ 12) eIAE)) 1 2 0 (μ 1 s) k f f2 μ (mset μ 1 (iU (μ 1) s v)) μ2) : Lc l D (tY cI cZ cJ) yL_tune wsL_tune rmL_tune [.ref (a 0), .int (iI s), .int (iI v), .ref o] (WL cI cJ a o f μ) k (WL cI cJ a o f2 μ2) := by
  refine ql_of (by decide +kernel) rfl (Nat.le_of_ble_eq_true rfl) ?_
  intro zp ze zs zm zargs zbelow zmeth zc A Q ls M hA w hl hT htab kret
  have hl : lv_has ls 5 [(0, .ref (a 0)), (1, .int (iI s)), (2, .int (iI v)), (3, .ref o)] := hl
  refine q_aln M dL_tune_0 (lv_at hl 3 rfl) ?_
  refine q_ic M dL_tune_1 ?_
  refine q_aln M dL_tune_2 (lv_at hl 0 rfl) ?_
  refine q_iln M dL_tune_3 (lv_at hl 1 rfl) ?_
  refine q_iln M dL_tune_4 (lv_at hl 2 rfl) ?_
  refine qx_iV (As := [.int (iI s), .int (iI v)]) (rest := [.int (iI 0), .ref o]) (wc := WAll cI a μ) (wc2 := WAll cI a (mset μ 1 (iU (μ 1) s v))) (ws2 := WL cI cJ a o f (mset μ 1 (iU (μ 1) s v))) M w hA hT hl (k_tune l hfl D cI cZ cJ a μ s v hs hv) gL_tune_X6_tune rfl ⟨by decide, by decide⟩ ⟨by decide, by decide⟩ 2 ⟨rfl, by decide +kernel⟩ rfl [false, true, true, true, true, true, true, true, true, true, true, true, true, true, true, true, true, true, true, true, true, true, true, true, true, true, true, true, true, true, true, true, true, true, true, true, true, true, true, true, true, true, true, true, true, true, true, true, true, true, true] rfl rfl 1 rfl rfl rfl (Nat.le_of_ble_eq_true rfl) rfl dL_tune_5 (fun E ce q9 H1 locs1 hE w h1 h2 h3 => ?_) (fun H locs hE w => ?_)
  · rcases hk with ⟨h0, -⟩ | ⟨h0, hk1, hk2, rfl, rfl⟩ | ⟨h0, hk1, hk2, rfl, rfl⟩ | ⟨h0, hk1, hk2, rfl, rfl⟩
    · rw [h0] at hE; cases hE
    · rw [h0] at hE
      cases hE
      refine vx_catch M.1.2.2.2.1 [] ⟨0, 10, 13, 13⟩ [⟨0, 10, 17, 15⟩] htab (fun z hz => nomatch hz) (by decide) (by decide) (M.1.2.2.2.2 (.classLink RL 13 eIOB) (by decide +kernel)) (va_Nw.use rfl hT.2.2.2.1.1) h1 h2 h3 ?_
      refine q_as (lv' := [(4, .ref q9), (0, .ref (a 0)), (1, .int (iI s)), (2, .int (iI v)), (3, .ref o)]) M dL_tune_13 hl (by decide) rfl (fun ls hl => ?_)
      refine q_ic M dL_tune_15 ?_
      exact kret _ _ _ _ _ _ _ (by decide) (by decide) dL_tune_16 w hk1.symm
    · rw [h0] at hE
      cases hE
      refine vx_catch M.1.2.2.2.1 [⟨0, 10, 13, 13⟩] ⟨0, 10, 17, 15⟩ [] htab (fun z hz => by rcases List.mem_singleton.mp hz with rfl; exact Or.inr ⟨by decide, eIOB, M.1.2.2.2.2 (.classLink RL 13 eIOB) (by decide +kernel), hT.2.2.2.2.1.1⟩) (by decide) (by decide) (M.1.2.2.2.2 (.classLink RL 15 eIAE) (by decide +kernel)) (va_Nw.use rfl hT.2.2.2.1.2.1) h1 h2 h3 ?_
      refine q_as (lv' := [(4, .ref q9), (0, .ref (a 0)), (1, .int (iI s)), (2, .int (iI v)), (3, .ref o)]) M dL_tune_17 hl (by decide) rfl (fun ls hl => ?_)
      refine q_ic M dL_tune_19 ?_
      exact kret _ _ _ _ _ _ _ (by decide) (by decide) dL_tune_20 w hk1.symm
    · exact absurd rfl hk2
  · rcases hk with ⟨-, hk1, hf2, hm2⟩ | ⟨h0, -⟩ | ⟨h0, -⟩ | ⟨h0, -⟩
    · refine q_i2l M dL_tune_8 ?_
      refine q_last0 (f := f) (z := μ 1 s) (ws2 := WL cI cJ a o (fU f (μ 1 s)) (mset μ 1 (iU (μ 1) s v))) M w 0 2 rfl rfl rfl dL_tune_9 (fun H locs w => ?_)
      refine q_go (tgt := 21) M dL_tune_10 (by decide) ?_
      refine q_ic M dL_tune_21 ?_
      exact kret _ _ _ _ _ _ _ (by decide) (by decide) dL_tune_22 (by rw [hf2, hm2]; exact w) hk1.symm
    · rw [h0] at hE; cases hE
    · rw [h0] at hE; cases hE
    · rw [h0] at hE; cases hE

set_option maxHeartbeats 4000000 in
set_option maxRecDepth 100000 in
theorem l_setStep (l : Launch) (hfl : l.stackTraces = false) (D : va_G) (cI cZ cJ : ClassId) (a : Nat → Nat) (μ : Nat → Int → Int) (o : Nat) (f : Nat → Int64) (p t s x : Int) (hp : -2147483648 ≤ p ∧ p < 2147483648) (ht : -2147483648 ≤ t ∧ t < 2147483648) (hs : -2147483648 ≤ s ∧ s < 2147483648) (hx : -2147483648 ≤ x ∧ x < 2147483648) (h23 : μ 23 0 = 0 ∨ μ 23 0 = 1) (k : Int) (f2 : Nat → Int64) (μ2 : Nat → Int → Int) (hk : LK (sq (chk (0 ≤ p ∧ p ≤ 11) eIOB) (sq (chk (0 ≤ t ∧ t ≤ 3) eIOB) (sq (chk (0 ≤ s ∧ s ≤ 15) eIOB) (sq (chk (-1 ≤ x ∧ x ≤ 7) eIOB) (chk (μ 23 0 = 0) eISE))))) 1 0 2 (μ 2 ((p * 4 + t) * 16 + s)) k f f2 μ (mset μ 2 (iU (μ 2) ((p * 4 + t) * 16 + s) x)) μ2) : Lc l D (tY cI cZ cJ) yL_setStep wsL_setStep rmL_setStep [.ref (a 0), .int (iI p), .int (iI t), .int (iI s), .int (iI x), .ref o] (WL cI cJ a o f μ) k (WL cI cJ a o f2 μ2) := by
  refine ql_of (by decide +kernel) rfl (Nat.le_of_ble_eq_true rfl) ?_
  intro zp ze zs zm zargs zbelow zmeth zc A Q ls M hA w hl hT htab kret
  have hl : lv_has ls 7 [(0, .ref (a 0)), (1, .int (iI p)), (2, .int (iI t)), (3, .int (iI s)), (4, .int (iI x)), (5, .ref o)] := hl
  refine q_al M dL_setStep_0 (lv_at hl 5 rfl) ?_
  refine q_ic M dL_setStep_2 ?_
  refine q_aln M dL_setStep_3 (lv_at hl 0 rfl) ?_
  refine q_iln M dL_setStep_4 (lv_at hl 1 rfl) ?_
  refine q_iln M dL_setStep_5 (lv_at hl 2 rfl) ?_
  refine q_iln M dL_setStep_6 (lv_at hl 3 rfl) ?_
  refine q_il M dL_setStep_7 (lv_at hl 4 rfl) ?_
  refine qx_iV (As := [.int (iI p), .int (iI t), .int (iI s), .int (iI x)]) (rest := [.int (iI 0), .ref o]) (wc := WAll cI a μ) (wc2 := WAll cI a (mset μ 2 (iU (μ 2) ((p * 4 + t) * 16 + s) x))) (ws2 := WL cI cJ a o f (mset μ 2 (iU (μ 2) ((p * 4 + t) * 16 + s) x))) M w hA hT hl (k_setStep l hfl D cI cZ cJ a μ p t s x hp ht hs hx h23) gL_setStep_X6_setStep rfl ⟨by decide, by decide⟩ ⟨by decide, by decide⟩ 4 ⟨rfl, by decide +kernel⟩ rfl [false, true, true, true, true, true, true, true, true, true, true, true, true, true, true, true, true, true, true, true, true, true, true, true, true, true, true, true, true, true, true, true, true, true, true, true, true, true, true, true, true, true, true, true, true, true, true, true, true, true, true] rfl rfl 1 rfl rfl rfl (Nat.le_of_ble_eq_true rfl) rfl dL_setStep_9 (fun E ce q9 H1 locs1 hE w h1 h2 h3 => ?_) (fun H locs hE w => ?_)
  · rcases hk with ⟨h0, -⟩ | ⟨h0, hk1, hk2, rfl, rfl⟩ | ⟨h0, hk1, hk2, rfl, rfl⟩ | ⟨h0, hk1, hk2, rfl, rfl⟩
    · rw [h0] at hE; cases hE
    · rw [h0] at hE
      cases hE
      refine vx_catch M.1.2.2.2.1 [] ⟨0, 14, 17, 13⟩ [⟨0, 14, 21, 17⟩] htab (fun z hz => nomatch hz) (by decide) (by decide) (M.1.2.2.2.2 (.classLink RL 13 eIOB) (by decide +kernel)) (va_Nw.use rfl hT.2.2.2.1.1) h1 h2 h3 ?_
      refine q_as (lv' := [(6, .ref q9), (0, .ref (a 0)), (1, .int (iI p)), (2, .int (iI t)), (3, .int (iI s)), (4, .int (iI x)), (5, .ref o)]) M dL_setStep_17 hl (by decide) rfl (fun ls hl => ?_)
      refine q_ic M dL_setStep_19 ?_
      exact kret _ _ _ _ _ _ _ (by decide) (by decide) dL_setStep_20 w hk1.symm
    · exact absurd rfl hk2
    · rw [h0] at hE
      cases hE
      refine vx_catch M.1.2.2.2.1 [⟨0, 14, 17, 13⟩] ⟨0, 14, 21, 17⟩ [] htab (fun z hz => by rcases List.mem_singleton.mp hz with rfl; exact Or.inr ⟨by decide, eIOB, M.1.2.2.2.2 (.classLink RL 13 eIOB) (by decide +kernel), hT.2.2.2.2.1.2.1⟩) (by decide) (by decide) (M.1.2.2.2.2 (.classLink RL 17 eISE) (by decide +kernel)) (va_Nw.use rfl hT.2.2.2.1.2.2) h1 h2 h3 ?_
      refine q_as (lv' := [(6, .ref q9), (0, .ref (a 0)), (1, .int (iI p)), (2, .int (iI t)), (3, .int (iI s)), (4, .int (iI x)), (5, .ref o)]) M dL_setStep_21 hl (by decide) rfl (fun ls hl => ?_)
      refine q_ic M dL_setStep_23 ?_
      exact kret _ _ _ _ _ _ _ (by decide) (by decide) dL_setStep_24 w hk1.symm
  · rcases hk with ⟨-, hk1, hf2, hm2⟩ | ⟨h0, -⟩ | ⟨h0, -⟩ | ⟨h0, -⟩
    · refine q_i2l M dL_setStep_12 ?_
      refine q_last0 (f := f) (z := μ 2 ((p * 4 + t) * 16 + s)) (ws2 := WL cI cJ a o (fU f (μ 2 ((p * 4 + t) * 16 + s))) (mset μ 2 (iU (μ 2) ((p * 4 + t) * 16 + s) x))) M w 0 2 rfl rfl rfl dL_setStep_13 (fun H locs w => ?_)
      refine q_go (tgt := 25) M dL_setStep_14 (by decide) ?_
      refine q_ic M dL_setStep_25 ?_
      exact kret _ _ _ _ _ _ _ (by decide) (by decide) dL_setStep_26 (by rw [hf2, hm2]; exact w) hk1.symm
    · rw [h0] at hE; cases hE
    · rw [h0] at hE; cases hE
    · rw [h0] at hE; cases hE

set_option maxHeartbeats 4000000 in
set_option maxRecDepth 100000 in
theorem l_setFill (l : Launch) (hfl : l.stackTraces = false) (D : va_G) (cI cZ cJ : ClassId) (a : Nat → Nat) (μ : Nat → Int → Int) (o : Nat) (f : Nat → Int64) (p t s x : Int) (hp : -2147483648 ≤ p ∧ p < 2147483648) (ht : -2147483648 ≤ t ∧ t < 2147483648) (hs : -2147483648 ≤ s ∧ s < 2147483648) (hx : -2147483648 ≤ x ∧ x < 2147483648) (h23 : μ 23 0 = 0 ∨ μ 23 0 = 1) (k : Int) (f2 : Nat → Int64) (μ2 : Nat → Int → Int) (hk : LK (sq (chk (0 ≤ p ∧ p ≤ 11) eIOB) (sq (chk (0 ≤ t ∧ t ≤ 3) eIOB) (sq (chk (12 ≤ s ∧ s ≤ 15) eIOB) (sq (chk (-1 ≤ x ∧ x ≤ 7) eIOB) (chk (μ 23 0 = 0) eISE))))) 1 0 2 (μ 3 ((p * 4 + t) * 4 + s - 12)) k f f2 μ (mset μ 3 (iU (μ 3) ((p * 4 + t) * 4 + s - 12) x)) μ2) : Lc l D (tY cI cZ cJ) yL_setFill wsL_setFill rmL_setFill [.ref (a 0), .int (iI p), .int (iI t), .int (iI s), .int (iI x), .ref o] (WL cI cJ a o f μ) k (WL cI cJ a o f2 μ2) := by
  refine ql_of (by decide +kernel) rfl (Nat.le_of_ble_eq_true rfl) ?_
  intro zp ze zs zm zargs zbelow zmeth zc A Q ls M hA w hl hT htab kret
  have hl : lv_has ls 7 [(0, .ref (a 0)), (1, .int (iI p)), (2, .int (iI t)), (3, .int (iI s)), (4, .int (iI x)), (5, .ref o)] := hl
  refine q_al M dL_setFill_0 (lv_at hl 5 rfl) ?_
  refine q_ic M dL_setFill_2 ?_
  refine q_aln M dL_setFill_3 (lv_at hl 0 rfl) ?_
  refine q_iln M dL_setFill_4 (lv_at hl 1 rfl) ?_
  refine q_iln M dL_setFill_5 (lv_at hl 2 rfl) ?_
  refine q_iln M dL_setFill_6 (lv_at hl 3 rfl) ?_
  refine q_il M dL_setFill_7 (lv_at hl 4 rfl) ?_
  refine qx_iV (As := [.int (iI p), .int (iI t), .int (iI s), .int (iI x)]) (rest := [.int (iI 0), .ref o]) (wc := WAll cI a μ) (wc2 := WAll cI a (mset μ 3 (iU (μ 3) ((p * 4 + t) * 4 + s - 12) x))) (ws2 := WL cI cJ a o f (mset μ 3 (iU (μ 3) ((p * 4 + t) * 4 + s - 12) x))) M w hA hT hl (k_setFill l hfl D cI cZ cJ a μ p t s x hp ht hs hx h23) gL_setFill_X6_setFill rfl ⟨by decide, by decide⟩ ⟨by decide, by decide⟩ 4 ⟨rfl, by decide +kernel⟩ rfl [false, true, true, true, true, true, true, true, true, true, true, true, true, true, true, true, true, true, true, true, true, true, true, true, true, true, true, true, true, true, true, true, true, true, true, true, true, true, true, true, true, true, true, true, true, true, true, true, true, true, true] rfl rfl 1 rfl rfl rfl (Nat.le_of_ble_eq_true rfl) rfl dL_setFill_9 (fun E ce q9 H1 locs1 hE w h1 h2 h3 => ?_) (fun H locs hE w => ?_)
  · rcases hk with ⟨h0, -⟩ | ⟨h0, hk1, hk2, rfl, rfl⟩ | ⟨h0, hk1, hk2, rfl, rfl⟩ | ⟨h0, hk1, hk2, rfl, rfl⟩
    · rw [h0] at hE; cases hE
    · rw [h0] at hE
      cases hE
      refine vx_catch M.1.2.2.2.1 [] ⟨0, 14, 17, 13⟩ [⟨0, 14, 21, 17⟩] htab (fun z hz => nomatch hz) (by decide) (by decide) (M.1.2.2.2.2 (.classLink RL 13 eIOB) (by decide +kernel)) (va_Nw.use rfl hT.2.2.2.1.1) h1 h2 h3 ?_
      refine q_as (lv' := [(6, .ref q9), (0, .ref (a 0)), (1, .int (iI p)), (2, .int (iI t)), (3, .int (iI s)), (4, .int (iI x)), (5, .ref o)]) M dL_setFill_17 hl (by decide) rfl (fun ls hl => ?_)
      refine q_ic M dL_setFill_19 ?_
      exact kret _ _ _ _ _ _ _ (by decide) (by decide) dL_setFill_20 w hk1.symm
    · exact absurd rfl hk2
    · rw [h0] at hE
      cases hE
      refine vx_catch M.1.2.2.2.1 [⟨0, 14, 17, 13⟩] ⟨0, 14, 21, 17⟩ [] htab (fun z hz => by rcases List.mem_singleton.mp hz with rfl; exact Or.inr ⟨by decide, eIOB, M.1.2.2.2.2 (.classLink RL 13 eIOB) (by decide +kernel), hT.2.2.2.2.1.2.1⟩) (by decide) (by decide) (M.1.2.2.2.2 (.classLink RL 17 eISE) (by decide +kernel)) (va_Nw.use rfl hT.2.2.2.1.2.2) h1 h2 h3 ?_
      refine q_as (lv' := [(6, .ref q9), (0, .ref (a 0)), (1, .int (iI p)), (2, .int (iI t)), (3, .int (iI s)), (4, .int (iI x)), (5, .ref o)]) M dL_setFill_21 hl (by decide) rfl (fun ls hl => ?_)
      refine q_ic M dL_setFill_23 ?_
      exact kret _ _ _ _ _ _ _ (by decide) (by decide) dL_setFill_24 w hk1.symm
  · rcases hk with ⟨-, hk1, hf2, hm2⟩ | ⟨h0, -⟩ | ⟨h0, -⟩ | ⟨h0, -⟩
    · refine q_i2l M dL_setFill_12 ?_
      refine q_last0 (f := f) (z := μ 3 ((p * 4 + t) * 4 + s - 12)) (ws2 := WL cI cJ a o (fU f (μ 3 ((p * 4 + t) * 4 + s - 12))) (mset μ 3 (iU (μ 3) ((p * 4 + t) * 4 + s - 12) x))) M w 0 2 rfl rfl rfl dL_setFill_13 (fun H locs w => ?_)
      refine q_go (tgt := 25) M dL_setFill_14 (by decide) ?_
      refine q_ic M dL_setFill_25 ?_
      exact kret _ _ _ _ _ _ _ (by decide) (by decide) dL_setFill_26 (by rw [hf2, hm2]; exact w) hk1.symm
    · rw [h0] at hE; cases hE
    · rw [h0] at hE; cases hE
    · rw [h0] at hE; cases hE

set_option maxHeartbeats 4000000 in
set_option maxRecDepth 100000 in
theorem l_setFeel (l : Launch) (hfl : l.stackTraces = false) (D : va_G) (cI cZ cJ : ClassId) (a : Nat → Nat) (μ : Nat → Int → Int) (o : Nat) (f : Nat → Int64) (p x u : Int) (hp : -2147483648 ≤ p ∧ p < 2147483648) (hx : -2147483648 ≤ x ∧ x < 2147483648) (hu : -2147483648 ≤ u ∧ u < 2147483648) (h23 : μ 23 0 = 0 ∨ μ 23 0 = 1) (k : Int) (f2 : Nat → Int64) (μ2 : Nat → Int → Int) (hk : LK (sq (chk (0 ≤ p ∧ p ≤ 11) eIOB) (sq (chk (0 ≤ x ∧ x ≤ 6) eIAE) (sq (chk (u = 0 ∨ 2 ≤ u ∧ u ≤ 8) eIAE) (chk (μ 23 0 = 0) eISE)))) 1 2 3 (μ 4 p) k f f2 μ (mset (mset μ 4 (iU (μ 4) p x)) 5 (iU (μ 5) p u)) μ2) : Lc l D (tY cI cZ cJ) yL_setFeel wsL_setFeel rmL_setFeel [.ref (a 0), .int (iI p), .int (iI x), .int (iI u), .ref o] (WL cI cJ a o f μ) k (WL cI cJ a o f2 μ2) := by
  refine ql_of (by decide +kernel) rfl (Nat.le_of_ble_eq_true rfl) ?_
  intro zp ze zs zm zargs zbelow zmeth zc A Q ls M hA w hl hT htab kret
  have hl : lv_has ls 6 [(0, .ref (a 0)), (1, .int (iI p)), (2, .int (iI x)), (3, .int (iI u)), (4, .ref o)] := hl
  refine q_al M dL_setFeel_0 (lv_at hl 4 rfl) ?_
  refine q_ic M dL_setFeel_2 ?_
  refine q_aln M dL_setFeel_3 (lv_at hl 0 rfl) ?_
  refine q_iln M dL_setFeel_4 (lv_at hl 1 rfl) ?_
  refine q_iln M dL_setFeel_5 (lv_at hl 2 rfl) ?_
  refine q_iln M dL_setFeel_6 (lv_at hl 3 rfl) ?_
  refine qx_iV (As := [.int (iI p), .int (iI x), .int (iI u)]) (rest := [.int (iI 0), .ref o]) (wc := WAll cI a μ) (wc2 := WAll cI a (mset (mset μ 4 (iU (μ 4) p x)) 5 (iU (μ 5) p u))) (ws2 := WL cI cJ a o f (mset (mset μ 4 (iU (μ 4) p x)) 5 (iU (μ 5) p u))) M w hA hT hl (k_setFeel l hfl D cI cZ cJ a μ p x u hp hx hu h23) gL_setFeel_X6_setFeel rfl ⟨by decide, by decide⟩ ⟨by decide, by decide⟩ 3 ⟨rfl, by decide +kernel⟩ rfl [false, true, true, true, true, true, true, true, true, true, true, true, true, true, true, true, true, true, true, true, true, true, true, true, true, true, true, true, true, true, true, true, true, true, true, true, true, true, true, true, true, true, true, true, true, true, true, true, true, true, true] rfl rfl 1 rfl rfl rfl (Nat.le_of_ble_eq_true rfl) rfl dL_setFeel_7 (fun E ce q9 H1 locs1 hE w h1 h2 h3 => ?_) (fun H locs hE w => ?_)
  · rcases hk with ⟨h0, -⟩ | ⟨h0, hk1, hk2, rfl, rfl⟩ | ⟨h0, hk1, hk2, rfl, rfl⟩ | ⟨h0, hk1, hk2, rfl, rfl⟩
    · rw [h0] at hE; cases hE
    · rw [h0] at hE
      cases hE
      refine vx_catch M.1.2.2.2.1 [] ⟨0, 12, 15, 13⟩ [⟨0, 12, 19, 15⟩, ⟨0, 12, 23, 17⟩] htab (fun z hz => nomatch hz) (by decide) (by decide) (M.1.2.2.2.2 (.classLink RL 13 eIOB) (by decide +kernel)) (va_Nw.use rfl hT.2.2.2.1.1) h1 h2 h3 ?_
      refine q_as (lv' := [(5, .ref q9), (0, .ref (a 0)), (1, .int (iI p)), (2, .int (iI x)), (3, .int (iI u)), (4, .ref o)]) M dL_setFeel_15 hl (by decide) rfl (fun ls hl => ?_)
      refine q_ic M dL_setFeel_17 ?_
      exact kret _ _ _ _ _ _ _ (by decide) (by decide) dL_setFeel_18 w hk1.symm
    · rw [h0] at hE
      cases hE
      refine vx_catch M.1.2.2.2.1 [⟨0, 12, 15, 13⟩] ⟨0, 12, 19, 15⟩ [⟨0, 12, 23, 17⟩] htab (fun z hz => by rcases List.mem_singleton.mp hz with rfl; exact Or.inr ⟨by decide, eIOB, M.1.2.2.2.2 (.classLink RL 13 eIOB) (by decide +kernel), hT.2.2.2.2.1.1⟩) (by decide) (by decide) (M.1.2.2.2.2 (.classLink RL 15 eIAE) (by decide +kernel)) (va_Nw.use rfl hT.2.2.2.1.2.1) h1 h2 h3 ?_
      refine q_as (lv' := [(5, .ref q9), (0, .ref (a 0)), (1, .int (iI p)), (2, .int (iI x)), (3, .int (iI u)), (4, .ref o)]) M dL_setFeel_19 hl (by decide) rfl (fun ls hl => ?_)
      refine q_ic M dL_setFeel_21 ?_
      exact kret _ _ _ _ _ _ _ (by decide) (by decide) dL_setFeel_22 w hk1.symm
    · rw [h0] at hE
      cases hE
      refine vx_catch M.1.2.2.2.1 [⟨0, 12, 15, 13⟩, ⟨0, 12, 19, 15⟩] ⟨0, 12, 23, 17⟩ [] htab (fun z hz => by rcases List.mem_cons.mp hz with rfl | hz; exact Or.inr ⟨by decide, eIOB, M.1.2.2.2.2 (.classLink RL 13 eIOB) (by decide +kernel), hT.2.2.2.2.1.2.1⟩; rcases List.mem_singleton.mp hz with rfl; exact Or.inr ⟨by decide, eIAE, M.1.2.2.2.2 (.classLink RL 15 eIAE) (by decide +kernel), hT.2.2.2.2.1.2.2⟩) (by decide) (by decide) (M.1.2.2.2.2 (.classLink RL 17 eISE) (by decide +kernel)) (va_Nw.use rfl hT.2.2.2.1.2.2) h1 h2 h3 ?_
      refine q_as (lv' := [(5, .ref q9), (0, .ref (a 0)), (1, .int (iI p)), (2, .int (iI x)), (3, .int (iI u)), (4, .ref o)]) M dL_setFeel_23 hl (by decide) rfl (fun ls hl => ?_)
      refine q_ic M dL_setFeel_25 ?_
      exact kret _ _ _ _ _ _ _ (by decide) (by decide) dL_setFeel_26 w hk1.symm
  · rcases hk with ⟨-, hk1, hf2, hm2⟩ | ⟨h0, -⟩ | ⟨h0, -⟩ | ⟨h0, -⟩
    · refine q_i2l M dL_setFeel_10 ?_
      refine q_last0 (f := f) (z := μ 4 p) (ws2 := WL cI cJ a o (fU f (μ 4 p)) (mset (mset μ 4 (iU (μ 4) p x)) 5 (iU (μ 5) p u))) M w 0 2 rfl rfl rfl dL_setFeel_11 (fun H locs w => ?_)
      refine q_go (tgt := 27) M dL_setFeel_12 (by decide) ?_
      refine q_ic M dL_setFeel_27 ?_
      exact kret _ _ _ _ _ _ _ (by decide) (by decide) dL_setFeel_28 (by rw [hf2, hm2]; exact w) hk1.symm
    · rw [h0] at hE; cases hE
    · rw [h0] at hE; cases hE
    · rw [h0] at hE; cases hE

set_option maxHeartbeats 4000000 in
set_option maxRecDepth 100000 in
theorem l_freeze (l : Launch) (hfl : l.stackTraces = false) (D : va_G) (cI cZ cJ : ClassId) (a : Nat → Nat) (μ : Nat → Int → Int) (o : Nat) (f : Nat → Int64) (p x : Int) (hp : -2147483648 ≤ p ∧ p < 2147483648) (hx : -2147483648 ≤ x ∧ x < 2147483648) (hI : IP μ) (hx1 : 0 ≤ x ∧ x ≤ 1) (k : Int) (f2 : Nat → Int64) (μ2 : Nat → Int → Int) (hk : LK (chk (0 ≤ p ∧ p ≤ 11) eIOB) 1 0 0 (μ 6 p) k f f2 μ (mset (mset μ 6 (iU (μ 6) p x)) 7 (frz μ p x)) μ2) : Lc l D (tY cI cZ cJ) yL_freeze wsL_freeze rmL_freeze [.ref (a 0), .int (iI p), .int (iI x), .ref o] (WL cI cJ a o f μ) k (WL cI cJ a o f2 μ2) := by
  refine ql_of (by decide +kernel) rfl (Nat.le_of_ble_eq_true rfl) ?_
  intro zp ze zs zm zargs zbelow zmeth zc A Q ls M hA w hl hT htab kret
  have hl : lv_has ls 5 [(0, .ref (a 0)), (1, .int (iI p)), (2, .int (iI x)), (3, .ref o)] := hl
  refine q_aln M dL_freeze_0 (lv_at hl 3 rfl) ?_
  refine q_ic M dL_freeze_1 ?_
  refine q_aln M dL_freeze_2 (lv_at hl 0 rfl) ?_
  refine q_iln M dL_freeze_3 (lv_at hl 1 rfl) ?_
  refine q_iln M dL_freeze_4 (lv_at hl 2 rfl) ?_
  refine qx_iV (As := [.int (iI p), .int (iI x)]) (rest := [.int (iI 0), .ref o]) (wc := WAll cI a μ) (wc2 := WAll cI a (mset (mset μ 6 (iU (μ 6) p x)) 7 (frz μ p x))) (ws2 := WL cI cJ a o f (mset (mset μ 6 (iU (μ 6) p x)) 7 (frz μ p x))) M w hA hT hl (k_freeze l hfl D cI cZ cJ a μ p x hp hx hI hx1) gL_freeze_X6_freeze rfl ⟨by decide, by decide⟩ ⟨by decide, by decide⟩ 2 ⟨rfl, by decide +kernel⟩ rfl [false, true, true, true, true, true, true, true, true, true, true, true, true, true, true, true, true, true, true, true, true, true, true, true, true, true, true, true, true, true, true, true, true, true, true, true, true, true, true, true, true, true, true, true, true, true, true, true, true, true, true] rfl rfl 1 rfl rfl rfl (Nat.le_of_ble_eq_true rfl) rfl dL_freeze_5 (fun E ce q9 H1 locs1 hE w h1 h2 h3 => ?_) (fun H locs hE w => ?_)
  · rcases hk with ⟨h0, -⟩ | ⟨h0, hk1, hk2, rfl, rfl⟩ | ⟨h0, hk1, hk2, rfl, rfl⟩ | ⟨h0, hk1, hk2, rfl, rfl⟩
    · rw [h0] at hE; cases hE
    · rw [h0] at hE
      cases hE
      refine vx_catch M.1.2.2.2.1 [] ⟨0, 17, 20, 13⟩ [] htab (fun z hz => nomatch hz) (by decide) (by decide) (M.1.2.2.2.2 (.classLink RL 13 eIOB) (by decide +kernel)) (va_Nw.use rfl hT.2.2.2.1.1) h1 h2 h3 ?_
      refine q_as (lv' := [(4, .ref q9), (0, .ref (a 0)), (1, .int (iI p)), (2, .int (iI x)), (3, .ref o)]) M dL_freeze_20 hl (by decide) rfl (fun ls hl => ?_)
      refine q_ic M dL_freeze_22 ?_
      exact kret _ _ _ _ _ _ _ (by decide) (by decide) dL_freeze_23 w hk1.symm
    · exact absurd rfl hk2
    · exact absurd rfl hk2
  · rcases hk with ⟨-, hk1, hf2, hm2⟩ | ⟨h0, -⟩ | ⟨h0, -⟩ | ⟨h0, -⟩
    · have q6 : 0 ≤ μ 6 p ∧ μ 6 p ≤ 1 := hI.2.2.2.2.1 p
      refine q_if_eq (tgt := 15) M dL_freeze_8 (by decide) (by omega) (fun c1 => ?_) (fun c1 => ?_)
      · have e6 : μ 6 p = 0 := by omega
        rw [e6] at hf2
        refine q_lc (z := 0) M dL_freeze_15 (by decide +kernel) ?_
        refine q_last0 (f := f) (z := 0) (ws2 := WL cI cJ a o (fU f (0)) (mset (mset μ 6 (iU (μ 6) p x)) 7 (frz μ p x))) M w 0 2 rfl rfl rfl dL_freeze_16 (fun H locs w => ?_)
        refine q_go (tgt := 24) M dL_freeze_17 (by decide) ?_
        refine q_ic M dL_freeze_24 ?_
        exact kret _ _ _ _ _ _ _ (by decide) (by decide) dL_freeze_25 (by rw [hf2, hm2]; exact w) hk1.symm
      · have e6 : μ 6 p = 1 := by omega
        rw [e6] at hf2
        refine q_lc (z := 1) M dL_freeze_11 (by decide +kernel) ?_
        refine q_go (tgt := 16) M dL_freeze_12 (by decide) ?_
        refine q_last0 (f := f) (z := 1) (ws2 := WL cI cJ a o (fU f (1)) (mset (mset μ 6 (iU (μ 6) p x)) 7 (frz μ p x))) M w 0 2 rfl rfl rfl dL_freeze_16 (fun H locs w => ?_)
        refine q_go (tgt := 24) M dL_freeze_17 (by decide) ?_
        refine q_ic M dL_freeze_24 ?_
        exact kret _ _ _ _ _ _ _ (by decide) (by decide) dL_freeze_25 (by rw [hf2, hm2]; exact w) hk1.symm
    · rw [h0] at hE; cases hE
    · rw [h0] at hE; cases hE
    · rw [h0] at hE; cases hE

set_option maxHeartbeats 4000000 in
set_option maxRecDepth 100000 in
theorem l_addEntry (l : Launch) (hfl : l.stackTraces = false) (D : va_G) (cI cZ cJ : ClassId) (a : Nat → Nat) (μ : Nat → Int → Int) (o : Nat) (f : Nat → Int64) (s p r : Int) (hs : -2147483648 ≤ s ∧ s < 2147483648) (hp : -2147483648 ≤ p ∧ p < 2147483648) (hr : -2147483648 ≤ r ∧ r < 2147483648) (h23 : μ 23 0 = 0 ∨ μ 23 0 = 1) (h8 : ∀ i, 0 ≤ i → i < 6 → 0 ≤ μ 8 i ∧ μ 8 i ≤ 8) (hS : (0 ≤ s ∧ s < 6) ∧ (0 ≤ p ∧ p < 12) ∧ (1 ≤ r ∧ r ≤ 4) ∧ μ 8 s < 8 → SDs (apM μ s p r) s) (k : Int) (f2 : Nat → Int64) (μ2 : Nat → Int → Int) (hk : LK (sq (chk (0 ≤ s ∧ s ≤ 5) eIOB) (sq (chk (0 ≤ p ∧ p ≤ 11) eIOB) (sq (chk (1 ≤ r ∧ r ≤ 4) eIAE) (sq (chk (μ 23 0 = 0) eISE) (chk (μ 8 s < 8) eISE))))) 1 2 3 (μ 8 s) k f f2 μ (laM (apM μ s p r) s) μ2) : Lc l D (tY cI cZ cJ) yL_addEntry wsL_addEntry rmL_addEntry [.ref (a 0), .int (iI s), .int (iI p), .int (iI r), .ref o] (WL cI cJ a o f μ) k (WL cI cJ a o f2 μ2) := by
  refine ql_of (by decide +kernel) rfl (Nat.le_of_ble_eq_true rfl) ?_
  intro zp ze zs zm zargs zbelow zmeth zc A Q ls M hA w hl hT htab kret
  have hl : lv_has ls 6 [(0, .ref (a 0)), (1, .int (iI s)), (2, .int (iI p)), (3, .int (iI r)), (4, .ref o)] := hl
  refine q_al M dL_addEntry_0 (lv_at hl 4 rfl) ?_
  refine q_ic M dL_addEntry_2 ?_
  refine q_aln M dL_addEntry_3 (lv_at hl 0 rfl) ?_
  refine q_iln M dL_addEntry_4 (lv_at hl 1 rfl) ?_
  refine q_iln M dL_addEntry_5 (lv_at hl 2 rfl) ?_
  refine q_iln M dL_addEntry_6 (lv_at hl 3 rfl) ?_
  refine qx_iV (As := [.int (iI s), .int (iI p), .int (iI r)]) (rest := [.int (iI 0), .ref o]) (wc := WAll cI a μ) (wc2 := WAll cI a (laM (apM μ s p r) s)) (ws2 := WL cI cJ a o f (laM (apM μ s p r) s)) M w hA hT hl (k_addEntry l hfl D cI cZ cJ a μ s p r hs hp hr h23 h8 hS) gL_addEntry_X6_addEntry rfl ⟨by decide, by decide⟩ ⟨by decide, by decide⟩ 3 ⟨rfl, by decide +kernel⟩ rfl [false, true, true, true, true, true, true, true, true, true, true, true, true, true, true, true, true, true, true, true, true, true, true, true, true, true, true, true, true, true, true, true, true, true, true, true, true, true, true, true, true, true, true, true, true, true, true, true, true, true, true] rfl rfl 1 rfl rfl rfl (Nat.le_of_ble_eq_true rfl) rfl dL_addEntry_7 (fun E ce q9 H1 locs1 hE w h1 h2 h3 => ?_) (fun H locs hE w => ?_)
  · rcases hk with ⟨h0, -⟩ | ⟨h0, hk1, hk2, rfl, rfl⟩ | ⟨h0, hk1, hk2, rfl, rfl⟩ | ⟨h0, hk1, hk2, rfl, rfl⟩
    · rw [h0] at hE; cases hE
    · rw [h0] at hE
      cases hE
      refine vx_catch M.1.2.2.2.1 [] ⟨0, 12, 15, 13⟩ [⟨0, 12, 19, 15⟩, ⟨0, 12, 23, 17⟩] htab (fun z hz => nomatch hz) (by decide) (by decide) (M.1.2.2.2.2 (.classLink RL 13 eIOB) (by decide +kernel)) (va_Nw.use rfl hT.2.2.2.1.1) h1 h2 h3 ?_
      refine q_as (lv' := [(5, .ref q9), (0, .ref (a 0)), (1, .int (iI s)), (2, .int (iI p)), (3, .int (iI r)), (4, .ref o)]) M dL_addEntry_15 hl (by decide) rfl (fun ls hl => ?_)
      refine q_ic M dL_addEntry_17 ?_
      exact kret _ _ _ _ _ _ _ (by decide) (by decide) dL_addEntry_18 w hk1.symm
    · rw [h0] at hE
      cases hE
      refine vx_catch M.1.2.2.2.1 [⟨0, 12, 15, 13⟩] ⟨0, 12, 19, 15⟩ [⟨0, 12, 23, 17⟩] htab (fun z hz => by rcases List.mem_singleton.mp hz with rfl; exact Or.inr ⟨by decide, eIOB, M.1.2.2.2.2 (.classLink RL 13 eIOB) (by decide +kernel), hT.2.2.2.2.1.1⟩) (by decide) (by decide) (M.1.2.2.2.2 (.classLink RL 15 eIAE) (by decide +kernel)) (va_Nw.use rfl hT.2.2.2.1.2.1) h1 h2 h3 ?_
      refine q_as (lv' := [(5, .ref q9), (0, .ref (a 0)), (1, .int (iI s)), (2, .int (iI p)), (3, .int (iI r)), (4, .ref o)]) M dL_addEntry_19 hl (by decide) rfl (fun ls hl => ?_)
      refine q_ic M dL_addEntry_21 ?_
      exact kret _ _ _ _ _ _ _ (by decide) (by decide) dL_addEntry_22 w hk1.symm
    · rw [h0] at hE
      cases hE
      refine vx_catch M.1.2.2.2.1 [⟨0, 12, 15, 13⟩, ⟨0, 12, 19, 15⟩] ⟨0, 12, 23, 17⟩ [] htab (fun z hz => by rcases List.mem_cons.mp hz with rfl | hz; exact Or.inr ⟨by decide, eIOB, M.1.2.2.2.2 (.classLink RL 13 eIOB) (by decide +kernel), hT.2.2.2.2.1.2.1⟩; rcases List.mem_singleton.mp hz with rfl; exact Or.inr ⟨by decide, eIAE, M.1.2.2.2.2 (.classLink RL 15 eIAE) (by decide +kernel), hT.2.2.2.2.1.2.2⟩) (by decide) (by decide) (M.1.2.2.2.2 (.classLink RL 17 eISE) (by decide +kernel)) (va_Nw.use rfl hT.2.2.2.1.2.2) h1 h2 h3 ?_
      refine q_as (lv' := [(5, .ref q9), (0, .ref (a 0)), (1, .int (iI s)), (2, .int (iI p)), (3, .int (iI r)), (4, .ref o)]) M dL_addEntry_23 hl (by decide) rfl (fun ls hl => ?_)
      refine q_ic M dL_addEntry_25 ?_
      exact kret _ _ _ _ _ _ _ (by decide) (by decide) dL_addEntry_26 w hk1.symm
  · rcases hk with ⟨-, hk1, hf2, hm2⟩ | ⟨h0, -⟩ | ⟨h0, -⟩ | ⟨h0, -⟩
    · refine q_i2l M dL_addEntry_10 ?_
      refine q_last0 (f := f) (z := μ 8 s) (ws2 := WL cI cJ a o (fU f (μ 8 s)) (laM (apM μ s p r) s)) M w 0 2 rfl rfl rfl dL_addEntry_11 (fun H locs w => ?_)
      refine q_go (tgt := 27) M dL_addEntry_12 (by decide) ?_
      refine q_ic M dL_addEntry_27 ?_
      exact kret _ _ _ _ _ _ _ (by decide) (by decide) dL_addEntry_28 (by rw [hf2, hm2]; exact w) hk1.symm
    · rw [h0] at hE; cases hE
    · rw [h0] at hE; cases hE
    · rw [h0] at hE; cases hE

set_option maxHeartbeats 4000000 in
set_option maxRecDepth 100000 in
theorem l_jump (l : Launch) (hfl : l.stackTraces = false) (D : va_G) (cI cZ cJ : ClassId) (a : Nat → Nat) (μ : Nat → Int → Int) (o : Nat) (f : Nat → Int64) (s e g t : Int) (hs : -2147483648 ≤ s ∧ s < 2147483648) (he : -2147483648 ≤ e ∧ e < 2147483648) (hg : -2147483648 ≤ g ∧ g < 2147483648) (ht : -2147483648 ≤ t ∧ t < 2147483648) (h23 : μ 23 0 = 0 ∨ μ 23 0 = 1) (h8 : ∀ i, 0 ≤ i → i < 6 → 0 ≤ μ 8 i ∧ μ 8 i ≤ 8) (hS : (0 ≤ s ∧ s < 6) ∧ (0 ≤ e ∧ e < μ 8 s) ∧ (0 ≤ g ∧ g < μ 8 s) ∧ (0 ≤ t ∧ t ≤ 3) → SDs (juM μ s e g t) s) (k : Int) (f2 : Nat → Int64) (μ2 : Nat → Int → Int) (hk : LK (sq (chk (0 ≤ s ∧ s ≤ 5) eIOB) (sq (chk (0 ≤ e ∧ e ≤ μ 8 s - 1) eIOB) (sq (chk (0 ≤ g ∧ g ≤ μ 8 s - 1) eIOB) (sq (chk (0 ≤ t ∧ t ≤ 3) eIAE) (chk (μ 23 0 = 0) eISE))))) 1 2 3 (lBs (juM μ s e g t) s) k f f2 μ (laM (juM μ s e g t) s) μ2) : Lc l D (tY cI cZ cJ) yL_jump wsL_jump rmL_jump [.ref (a 0), .int (iI s), .int (iI e), .int (iI g), .int (iI t), .ref o] (WL cI cJ a o f μ) k (WL cI cJ a o f2 μ2) := by
  refine ql_of (by decide +kernel) rfl (Nat.le_of_ble_eq_true rfl) ?_
  intro zp ze zs zm zargs zbelow zmeth zc A Q ls M hA w hl hT htab kret
  have hl : lv_has ls 7 [(0, .ref (a 0)), (1, .int (iI s)), (2, .int (iI e)), (3, .int (iI g)), (4, .int (iI t)), (5, .ref o)] := hl
  refine q_al M dL_jump_0 (lv_at hl 5 rfl) ?_
  refine q_ic M dL_jump_2 ?_
  refine q_aln M dL_jump_3 (lv_at hl 0 rfl) ?_
  refine q_iln M dL_jump_4 (lv_at hl 1 rfl) ?_
  refine q_iln M dL_jump_5 (lv_at hl 2 rfl) ?_
  refine q_iln M dL_jump_6 (lv_at hl 3 rfl) ?_
  refine q_il M dL_jump_7 (lv_at hl 4 rfl) ?_
  refine qx_iV (As := [.int (iI s), .int (iI e), .int (iI g), .int (iI t)]) (rest := [.int (iI 0), .ref o]) (wc := WAll cI a μ) (wc2 := WAll cI a (laM (juM μ s e g t) s)) (ws2 := WL cI cJ a o f (laM (juM μ s e g t) s)) M w hA hT hl (k_jump l hfl D cI cZ cJ a μ s e g t hs he hg ht h23 h8 hS) gL_jump_X6_jump rfl ⟨by decide, by decide⟩ ⟨by decide, by decide⟩ 4 ⟨rfl, by decide +kernel⟩ rfl [false, true, true, true, true, true, true, true, true, true, true, true, true, true, true, true, true, true, true, true, true, true, true, true, true, true, true, true, true, true, true, true, true, true, true, true, true, true, true, true, true, true, true, true, true, true, true, true, true, true, true] rfl rfl 1 rfl rfl rfl (Nat.le_of_ble_eq_true rfl) rfl dL_jump_9 (fun E ce q9 H1 locs1 hE w h1 h2 h3 => ?_) (fun H locs hE w => ?_)
  · rcases hk with ⟨h0, -⟩ | ⟨h0, hk1, hk2, rfl, rfl⟩ | ⟨h0, hk1, hk2, rfl, rfl⟩ | ⟨h0, hk1, hk2, rfl, rfl⟩
    · rw [h0] at hE; cases hE
    · rw [h0] at hE
      cases hE
      refine vx_catch M.1.2.2.2.1 [] ⟨0, 14, 17, 13⟩ [⟨0, 14, 21, 15⟩, ⟨0, 14, 25, 17⟩] htab (fun z hz => nomatch hz) (by decide) (by decide) (M.1.2.2.2.2 (.classLink RL 13 eIOB) (by decide +kernel)) (va_Nw.use rfl hT.2.2.2.1.1) h1 h2 h3 ?_
      refine q_as (lv' := [(6, .ref q9), (0, .ref (a 0)), (1, .int (iI s)), (2, .int (iI e)), (3, .int (iI g)), (4, .int (iI t)), (5, .ref o)]) M dL_jump_17 hl (by decide) rfl (fun ls hl => ?_)
      refine q_ic M dL_jump_19 ?_
      exact kret _ _ _ _ _ _ _ (by decide) (by decide) dL_jump_20 w hk1.symm
    · rw [h0] at hE
      cases hE
      refine vx_catch M.1.2.2.2.1 [⟨0, 14, 17, 13⟩] ⟨0, 14, 21, 15⟩ [⟨0, 14, 25, 17⟩] htab (fun z hz => by rcases List.mem_singleton.mp hz with rfl; exact Or.inr ⟨by decide, eIOB, M.1.2.2.2.2 (.classLink RL 13 eIOB) (by decide +kernel), hT.2.2.2.2.1.1⟩) (by decide) (by decide) (M.1.2.2.2.2 (.classLink RL 15 eIAE) (by decide +kernel)) (va_Nw.use rfl hT.2.2.2.1.2.1) h1 h2 h3 ?_
      refine q_as (lv' := [(6, .ref q9), (0, .ref (a 0)), (1, .int (iI s)), (2, .int (iI e)), (3, .int (iI g)), (4, .int (iI t)), (5, .ref o)]) M dL_jump_21 hl (by decide) rfl (fun ls hl => ?_)
      refine q_ic M dL_jump_23 ?_
      exact kret _ _ _ _ _ _ _ (by decide) (by decide) dL_jump_24 w hk1.symm
    · rw [h0] at hE
      cases hE
      refine vx_catch M.1.2.2.2.1 [⟨0, 14, 17, 13⟩, ⟨0, 14, 21, 15⟩] ⟨0, 14, 25, 17⟩ [] htab (fun z hz => by rcases List.mem_cons.mp hz with rfl | hz; exact Or.inr ⟨by decide, eIOB, M.1.2.2.2.2 (.classLink RL 13 eIOB) (by decide +kernel), hT.2.2.2.2.1.2.1⟩; rcases List.mem_singleton.mp hz with rfl; exact Or.inr ⟨by decide, eIAE, M.1.2.2.2.2 (.classLink RL 15 eIAE) (by decide +kernel), hT.2.2.2.2.1.2.2⟩) (by decide) (by decide) (M.1.2.2.2.2 (.classLink RL 17 eISE) (by decide +kernel)) (va_Nw.use rfl hT.2.2.2.1.2.2) h1 h2 h3 ?_
      refine q_as (lv' := [(6, .ref q9), (0, .ref (a 0)), (1, .int (iI s)), (2, .int (iI e)), (3, .int (iI g)), (4, .int (iI t)), (5, .ref o)]) M dL_jump_25 hl (by decide) rfl (fun ls hl => ?_)
      refine q_ic M dL_jump_27 ?_
      exact kret _ _ _ _ _ _ _ (by decide) (by decide) dL_jump_28 w hk1.symm
  · rcases hk with ⟨-, hk1, hf2, hm2⟩ | ⟨h0, -⟩ | ⟨h0, -⟩ | ⟨h0, -⟩
    · refine q_i2l M dL_jump_12 ?_
      refine q_last0 (f := f) (z := lBs (juM μ s e g t) s) (ws2 := WL cI cJ a o (fU f (lBs (juM μ s e g t) s)) (laM (juM μ s e g t) s)) M w 0 2 rfl rfl rfl dL_jump_13 (fun H locs w => ?_)
      refine q_go (tgt := 29) M dL_jump_14 (by decide) ?_
      refine q_ic M dL_jump_29 ?_
      exact kret _ _ _ _ _ _ _ (by decide) (by decide) dL_jump_30 (by rw [hf2, hm2]; exact w) hk1.symm
    · rw [h0] at hE; cases hE
    · rw [h0] at hE; cases hE
    · rw [h0] at hE; cases hE

set_option maxHeartbeats 4000000 in
set_option maxRecDepth 100000 in
theorem l_bars (l : Launch) (hfl : l.stackTraces = false) (D : va_G) (cI cZ cJ : ClassId) (a : Nat → Nat) (μ : Nat → Int → Int) (o : Nat) (f : Nat → Int64) (s : Int) (hs : -2147483648 ≤ s ∧ s < 2147483648) (k : Int) (f2 : Nat → Int64) (μ2 : Nat → Int → Int) (hk : LK (chk (0 ≤ s ∧ s ≤ 5) eIOB) 1 0 0 (μ 13 s) k f f2 μ μ μ2) : Lc l D (tY cI cZ cJ) yL_bars wsL_bars rmL_bars [.ref (a 0), .int (iI s), .ref o] (WL cI cJ a o f μ) k (WL cI cJ a o f2 μ2) := by
  refine ql_of (by decide +kernel) rfl (Nat.le_of_ble_eq_true rfl) ?_
  intro zp ze zs zm zargs zbelow zmeth zc A Q ls M hA w hl hT htab kret
  have hl : lv_has ls 4 [(0, .ref (a 0)), (1, .int (iI s)), (2, .ref o)] := hl
  refine q_aln M dL_bars_0 (lv_at hl 2 rfl) ?_
  refine q_ic M dL_bars_1 ?_
  refine q_aln M dL_bars_2 (lv_at hl 0 rfl) ?_
  refine q_iln M dL_bars_3 (lv_at hl 1 rfl) ?_
  refine qx_iV (As := [.int (iI s)]) (rest := [.int (iI 0), .ref o]) (wc := WAll cI a μ) (wc2 := WAll cI a μ) (ws2 := WL cI cJ a o f μ) M w hA hT hl (k_bars l hfl D cI cZ cJ a μ s hs) gL_bars_X6_bars rfl ⟨by decide, by decide⟩ ⟨by decide, by decide⟩ 1 ⟨rfl, by decide +kernel⟩ rfl [false, true, true, true, true, true, true, true, true, true, true, true, true, true, true, true, true, true, true, true, true, true, true, true, true, true, true, true, true, true, true, true, true, true, true, true, true, true, true, true, true, true, true, true, true, true, true, true, true, true, true] rfl rfl 1 rfl rfl rfl (Nat.le_of_ble_eq_true rfl) rfl dL_bars_4 (fun E ce q9 H1 locs1 hE w h1 h2 h3 => ?_) (fun H locs hE w => ?_)
  · rcases hk with ⟨h0, -⟩ | ⟨h0, hk1, hk2, rfl, rfl⟩ | ⟨h0, hk1, hk2, rfl, rfl⟩ | ⟨h0, hk1, hk2, rfl, rfl⟩
    · rw [h0] at hE; cases hE
    · rw [h0] at hE
      cases hE
      refine vx_catch M.1.2.2.2.1 [] ⟨0, 9, 12, 13⟩ [] htab (fun z hz => nomatch hz) (by decide) (by decide) (M.1.2.2.2.2 (.classLink RL 13 eIOB) (by decide +kernel)) (va_Nw.use rfl hT.2.2.2.1.1) h1 h2 h3 ?_
      refine q_asn (lv' := [(3, .ref q9), (0, .ref (a 0)), (1, .int (iI s)), (2, .ref o)]) M dL_bars_12 rfl hl (by decide) rfl (fun ls hl => ?_)
      refine q_ic M dL_bars_13 ?_
      exact kret _ _ _ _ _ _ _ (by decide) (by decide) dL_bars_14 w hk1.symm
    · exact absurd rfl hk2
    · exact absurd rfl hk2
  · rcases hk with ⟨-, hk1, hf2, hm2⟩ | ⟨h0, -⟩ | ⟨h0, -⟩ | ⟨h0, -⟩
    · refine q_i2l M dL_bars_7 ?_
      refine q_last0 (f := f) (z := μ 13 s) (ws2 := WL cI cJ a o (fU f (μ 13 s)) μ) M w 0 2 rfl rfl rfl dL_bars_8 (fun H locs w => ?_)
      refine q_go (tgt := 15) M dL_bars_9 (by decide) ?_
      refine q_ic M dL_bars_15 ?_
      exact kret _ _ _ _ _ _ _ (by decide) (by decide) dL_bars_16 (by rw [hf2, hm2]; exact w) hk1.symm
    · rw [h0] at hE; cases hE
    · rw [h0] at hE; cases hE
    · rw [h0] at hE; cases hE

set_option maxHeartbeats 4000000 in
set_option maxRecDepth 100000 in
theorem l_barAt (l : Launch) (hfl : l.stackTraces = false) (D : va_G) (cI cZ cJ : ClassId) (a : Nat → Nat) (μ : Nat → Int → Int) (o : Nat) (f : Nat → Int64) (s b : Int) (hs : -2147483648 ≤ s ∧ s < 2147483648) (hb : -2147483648 ≤ b ∧ b < 2147483648) (hP : IP μ) (hI : IH μ) (hB : IB μ) (k : Int) (f2 : Nat → Int64) (μ2 : Nat → Int → Int) (hk : LK (sq (chk (0 ≤ s ∧ s ≤ 5) eIOB) (chk (0 ≤ b ∧ b ≤ μ 13 s - 1) eIOB)) 1 0 0 (cdF μ (μ 14 (s * 64 + b)) (μ 15 (s * 64 + b))) k f f2 μ μ μ2) : Lc l D (tY cI cZ cJ) yL_barAt wsL_barAt rmL_barAt [.ref (a 0), .int (iI s), .int (iI b), .ref o] (WL cI cJ a o f μ) k (WL cI cJ a o f2 μ2) := by
  refine ql_of (by decide +kernel) rfl (Nat.le_of_ble_eq_true rfl) ?_
  intro zp ze zs zm zargs zbelow zmeth zc A Q ls M hA w hl hT htab kret
  have hl : lv_has ls 5 [(0, .ref (a 0)), (1, .int (iI s)), (2, .int (iI b)), (3, .ref o)] := hl
  refine q_aln M dL_barAt_0 (lv_at hl 3 rfl) ?_
  refine q_ic M dL_barAt_1 ?_
  refine q_aln M dL_barAt_2 (lv_at hl 0 rfl) ?_
  refine q_iln M dL_barAt_3 (lv_at hl 1 rfl) ?_
  refine q_iln M dL_barAt_4 (lv_at hl 2 rfl) ?_
  refine qx_iV (As := [.int (iI s), .int (iI b)]) (rest := [.int (iI 0), .ref o]) (wc := WAll cI a μ) (wc2 := WAll cI a μ) (ws2 := WL cI cJ a o f μ) M w hA hT hl (k_barAt l hfl D cI cZ cJ a μ s b hs hb hP hI hB) gL_barAt_X6_barAt rfl ⟨by decide, by decide⟩ ⟨by decide, by decide⟩ 2 ⟨rfl, by decide +kernel⟩ rfl [false, true, true, true, true, true, true, true, true, true, true, true, true, true, true, true, true, true, true, true, true, true, true, true, true, true, true, true, true, true, true, true, true, true, true, true, true, true, true, true, true, true, true, true, true, true, true, true, true, true, true] rfl rfl 1 rfl rfl rfl (Nat.le_of_ble_eq_true rfl) rfl dL_barAt_5 (fun E ce q9 H1 locs1 hE w h1 h2 h3 => ?_) (fun H locs hE w => ?_)
  · rcases hk with ⟨h0, -⟩ | ⟨h0, hk1, hk2, rfl, rfl⟩ | ⟨h0, hk1, hk2, rfl, rfl⟩ | ⟨h0, hk1, hk2, rfl, rfl⟩
    · rw [h0] at hE; cases hE
    · rw [h0] at hE
      cases hE
      refine vx_catch M.1.2.2.2.1 [] ⟨0, 10, 13, 13⟩ [] htab (fun z hz => nomatch hz) (by decide) (by decide) (M.1.2.2.2.2 (.classLink RL 13 eIOB) (by decide +kernel)) (va_Nw.use rfl hT.2.2.2.1.1) h1 h2 h3 ?_
      refine q_as (lv' := [(4, .ref q9), (0, .ref (a 0)), (1, .int (iI s)), (2, .int (iI b)), (3, .ref o)]) M dL_barAt_13 hl (by decide) rfl (fun ls hl => ?_)
      refine q_ic M dL_barAt_15 ?_
      exact kret _ _ _ _ _ _ _ (by decide) (by decide) dL_barAt_16 w hk1.symm
    · exact absurd rfl hk2
    · exact absurd rfl hk2
  · rcases hk with ⟨-, hk1, hf2, hm2⟩ | ⟨h0, -⟩ | ⟨h0, -⟩ | ⟨h0, -⟩
    · refine q_i2l M dL_barAt_8 ?_
      refine q_last0 (f := f) (z := cdF μ (μ 14 (s * 64 + b)) (μ 15 (s * 64 + b))) (ws2 := WL cI cJ a o (fU f (cdF μ (μ 14 (s * 64 + b)) (μ 15 (s * 64 + b)))) μ) M w 0 2 rfl rfl rfl dL_barAt_9 (fun H locs w => ?_)
      refine q_go (tgt := 17) M dL_barAt_10 (by decide) ?_
      refine q_ic M dL_barAt_17 ?_
      exact kret _ _ _ _ _ _ _ (by decide) (by decide) dL_barAt_18 (by rw [hf2, hm2]; exact w) hk1.symm
    · rw [h0] at hE; cases hE
    · rw [h0] at hE; cases hE
    · rw [h0] at hE; cases hE

set_option maxHeartbeats 4000000 in
set_option maxRecDepth 100000 in
theorem l_beats (l : Launch) (hfl : l.stackTraces = false) (D : va_G) (cI cZ cJ : ClassId) (a : Nat → Nat) (μ : Nat → Int → Int) (o : Nat) (f : Nat → Int64) (s : Int) (hs : -2147483648 ≤ s ∧ s < 2147483648) (hP : IP μ) (hI : IH μ) (hB : IB μ) (k : Int) (f2 : Nat → Int64) (μ2 : Nat → Int → Int) (hk : LK (chk (0 ≤ s ∧ s ≤ 5) eIOB) 1 0 0 (sI (fun b => cBs μ (cdF μ (μ 14 (s * 64 + b)) (μ 15 (s * 64 + b)))) (μ 13 s)) k f f2 μ μ μ2) : Lc l D (tY cI cZ cJ) yL_beats wsL_beats rmL_beats [.ref (a 0), .int (iI s), .ref o] (WL cI cJ a o f μ) k (WL cI cJ a o f2 μ2) := by
  refine ql_of (by decide +kernel) rfl (Nat.le_of_ble_eq_true rfl) ?_
  intro zp ze zs zm zargs zbelow zmeth zc A Q ls M hA w hl hT htab kret
  have hl : lv_has ls 4 [(0, .ref (a 0)), (1, .int (iI s)), (2, .ref o)] := hl
  refine q_aln M dL_beats_0 (lv_at hl 2 rfl) ?_
  refine q_ic M dL_beats_1 ?_
  refine q_aln M dL_beats_2 (lv_at hl 0 rfl) ?_
  refine q_iln M dL_beats_3 (lv_at hl 1 rfl) ?_
  refine qx_iV (As := [.int (iI s)]) (rest := [.int (iI 0), .ref o]) (wc := WAll cI a μ) (wc2 := WAll cI a μ) (ws2 := WL cI cJ a o f μ) M w hA hT hl (k_beats l hfl D cI cZ cJ a μ s hs hP hI hB) gL_beats_X6_beats rfl ⟨by decide, by decide⟩ ⟨by decide, by decide⟩ 1 ⟨rfl, by decide +kernel⟩ rfl [false, true, true, true, true, true, true, true, true, true, true, true, true, true, true, true, true, true, true, true, true, true, true, true, true, true, true, true, true, true, true, true, true, true, true, true, true, true, true, true, true, true, true, true, true, true, true, true, true, true, true] rfl rfl 1 rfl rfl rfl (Nat.le_of_ble_eq_true rfl) rfl dL_beats_4 (fun E ce q9 H1 locs1 hE w h1 h2 h3 => ?_) (fun H locs hE w => ?_)
  · rcases hk with ⟨h0, -⟩ | ⟨h0, hk1, hk2, rfl, rfl⟩ | ⟨h0, hk1, hk2, rfl, rfl⟩ | ⟨h0, hk1, hk2, rfl, rfl⟩
    · rw [h0] at hE; cases hE
    · rw [h0] at hE
      cases hE
      refine vx_catch M.1.2.2.2.1 [] ⟨0, 9, 12, 13⟩ [] htab (fun z hz => nomatch hz) (by decide) (by decide) (M.1.2.2.2.2 (.classLink RL 13 eIOB) (by decide +kernel)) (va_Nw.use rfl hT.2.2.2.1.1) h1 h2 h3 ?_
      refine q_asn (lv' := [(3, .ref q9), (0, .ref (a 0)), (1, .int (iI s)), (2, .ref o)]) M dL_beats_12 rfl hl (by decide) rfl (fun ls hl => ?_)
      refine q_ic M dL_beats_13 ?_
      exact kret _ _ _ _ _ _ _ (by decide) (by decide) dL_beats_14 w hk1.symm
    · exact absurd rfl hk2
    · exact absurd rfl hk2
  · rcases hk with ⟨-, hk1, hf2, hm2⟩ | ⟨h0, -⟩ | ⟨h0, -⟩ | ⟨h0, -⟩
    · refine q_i2l M dL_beats_7 ?_
      refine q_last0 (f := f) (z := sI (fun b => cBs μ (cdF μ (μ 14 (s * 64 + b)) (μ 15 (s * 64 + b)))) (μ 13 s)) (ws2 := WL cI cJ a o (fU f (sI (fun b => cBs μ (cdF μ (μ 14 (s * 64 + b)) (μ 15 (s * 64 + b)))) (μ 13 s))) μ) M w 0 2 rfl rfl rfl dL_beats_8 (fun H locs w => ?_)
      refine q_go (tgt := 15) M dL_beats_9 (by decide) ?_
      refine q_ic M dL_beats_15 ?_
      exact kret _ _ _ _ _ _ _ (by decide) (by decide) dL_beats_16 (by rw [hf2, hm2]; exact w) hk1.symm
    · rw [h0] at hE; cases hE
    · rw [h0] at hE; cases hE
    · rw [h0] at hE; cases hE

set_option maxHeartbeats 4000000 in
set_option maxRecDepth 100000 in
theorem l_beatsByTicks (l : Launch) (hfl : l.stackTraces = false) (D : va_G) (cI cZ cJ : ClassId) (a : Nat → Nat) (μ : Nat → Int → Int) (o : Nat) (f : Nat → Int64) (s : Int) (hs : -2147483648 ≤ s ∧ s < 2147483648) (hP : IP μ) (hI : IH μ) (hB : IB μ) (k : Int) (f2 : Nat → Int64) (μ2 : Nat → Int → Int) (hk : LK (chk (0 ≤ s ∧ s ≤ 5) eIOB) 1 0 0 (sI (fun b => cBt μ (cdF μ (μ 14 (s * 64 + b)) (μ 15 (s * 64 + b)))) (μ 13 s)) k f f2 μ μ μ2) : Lc l D (tY cI cZ cJ) yL_beatsByTicks wsL_beatsByTicks rmL_beatsByTicks [.ref (a 0), .int (iI s), .ref o] (WL cI cJ a o f μ) k (WL cI cJ a o f2 μ2) := by
  refine ql_of (by decide +kernel) rfl (Nat.le_of_ble_eq_true rfl) ?_
  intro zp ze zs zm zargs zbelow zmeth zc A Q ls M hA w hl hT htab kret
  have hl : lv_has ls 4 [(0, .ref (a 0)), (1, .int (iI s)), (2, .ref o)] := hl
  refine q_aln M dL_beatsByTicks_0 (lv_at hl 2 rfl) ?_
  refine q_ic M dL_beatsByTicks_1 ?_
  refine q_aln M dL_beatsByTicks_2 (lv_at hl 0 rfl) ?_
  refine q_iln M dL_beatsByTicks_3 (lv_at hl 1 rfl) ?_
  refine qx_iV (As := [.int (iI s)]) (rest := [.int (iI 0), .ref o]) (wc := WAll cI a μ) (wc2 := WAll cI a μ) (ws2 := WL cI cJ a o f μ) M w hA hT hl (k_beatsByTicks l hfl D cI cZ cJ a μ s hs hP hI hB) gL_beatsByTicks_X6_beatsByTicks rfl ⟨by decide, by decide⟩ ⟨by decide, by decide⟩ 1 ⟨rfl, by decide +kernel⟩ rfl [false, true, true, true, true, true, true, true, true, true, true, true, true, true, true, true, true, true, true, true, true, true, true, true, true, true, true, true, true, true, true, true, true, true, true, true, true, true, true, true, true, true, true, true, true, true, true, true, true, true, true] rfl rfl 1 rfl rfl rfl (Nat.le_of_ble_eq_true rfl) rfl dL_beatsByTicks_4 (fun E ce q9 H1 locs1 hE w h1 h2 h3 => ?_) (fun H locs hE w => ?_)
  · rcases hk with ⟨h0, -⟩ | ⟨h0, hk1, hk2, rfl, rfl⟩ | ⟨h0, hk1, hk2, rfl, rfl⟩ | ⟨h0, hk1, hk2, rfl, rfl⟩
    · rw [h0] at hE; cases hE
    · rw [h0] at hE
      cases hE
      refine vx_catch M.1.2.2.2.1 [] ⟨0, 9, 12, 13⟩ [] htab (fun z hz => nomatch hz) (by decide) (by decide) (M.1.2.2.2.2 (.classLink RL 13 eIOB) (by decide +kernel)) (va_Nw.use rfl hT.2.2.2.1.1) h1 h2 h3 ?_
      refine q_asn (lv' := [(3, .ref q9), (0, .ref (a 0)), (1, .int (iI s)), (2, .ref o)]) M dL_beatsByTicks_12 rfl hl (by decide) rfl (fun ls hl => ?_)
      refine q_ic M dL_beatsByTicks_13 ?_
      exact kret _ _ _ _ _ _ _ (by decide) (by decide) dL_beatsByTicks_14 w hk1.symm
    · exact absurd rfl hk2
    · exact absurd rfl hk2
  · rcases hk with ⟨-, hk1, hf2, hm2⟩ | ⟨h0, -⟩ | ⟨h0, -⟩ | ⟨h0, -⟩
    · refine q_i2l M dL_beatsByTicks_7 ?_
      refine q_last0 (f := f) (z := sI (fun b => cBt μ (cdF μ (μ 14 (s * 64 + b)) (μ 15 (s * 64 + b)))) (μ 13 s)) (ws2 := WL cI cJ a o (fU f (sI (fun b => cBt μ (cdF μ (μ 14 (s * 64 + b)) (μ 15 (s * 64 + b)))) (μ 13 s))) μ) M w 0 2 rfl rfl rfl dL_beatsByTicks_8 (fun H locs w => ?_)
      refine q_go (tgt := 15) M dL_beatsByTicks_9 (by decide) ?_
      refine q_ic M dL_beatsByTicks_15 ?_
      exact kret _ _ _ _ _ _ _ (by decide) (by decide) dL_beatsByTicks_16 (by rw [hf2, hm2]; exact w) hk1.symm
    · rw [h0] at hE; cases hE
    · rw [h0] at hE; cases hE
    · rw [h0] at hE; cases hE

set_option maxHeartbeats 4000000 in
set_option maxRecDepth 100000 in
theorem l_addToSet (l : Launch) (hfl : l.stackTraces = false) (D : va_G) (cI cZ cJ : ClassId) (a : Nat → Nat) (μ : Nat → Int → Int) (o : Nat) (f : Nat → Int64) (s : Int) (hs : -2147483648 ≤ s ∧ s < 2147483648) (h23 : μ 23 0 = 0 ∨ μ 23 0 = 1) (hc : 0 ≤ μ 22 0 ∧ μ 22 0 ≤ 8) (k : Int) (f2 : Nat → Int64) (μ2 : Nat → Int → Int) (hk : LK (sq (chk (0 ≤ s ∧ s ≤ 5) eIOB) (sq (chk (μ 23 0 = 0) eISE) (chk (μ 22 0 < 8) eISE))) 1 0 2 (μ 22 0 + 1) k f f2 μ (mset (mset μ 18 (iU (μ 18) (μ 22 0) s)) 22 (fun _ => μ 22 0 + 1)) μ2) : Lc l D (tY cI cZ cJ) yL_addToSet wsL_addToSet rmL_addToSet [.ref (a 0), .int (iI s), .ref o] (WL cI cJ a o f μ) k (WL cI cJ a o f2 μ2) := by
  refine ql_of (by decide +kernel) rfl (Nat.le_of_ble_eq_true rfl) ?_
  intro zp ze zs zm zargs zbelow zmeth zc A Q ls M hA w hl hT htab kret
  have hl : lv_has ls 4 [(0, .ref (a 0)), (1, .int (iI s)), (2, .ref o)] := hl
  refine q_aln M dL_addToSet_0 (lv_at hl 2 rfl) ?_
  refine q_ic M dL_addToSet_1 ?_
  refine q_aln M dL_addToSet_2 (lv_at hl 0 rfl) ?_
  refine q_iln M dL_addToSet_3 (lv_at hl 1 rfl) ?_
  refine qx_iV (As := [.int (iI s)]) (rest := [.int (iI 0), .ref o]) (wc := WAll cI a μ) (wc2 := WAll cI a (mset (mset μ 18 (iU (μ 18) (μ 22 0) s)) 22 (fun _ => μ 22 0 + 1))) (ws2 := WL cI cJ a o f (mset (mset μ 18 (iU (μ 18) (μ 22 0) s)) 22 (fun _ => μ 22 0 + 1))) M w hA hT hl (k_addToSet l hfl D cI cZ cJ a μ s hs h23 hc) gL_addToSet_X6_addToSet rfl ⟨by decide, by decide⟩ ⟨by decide, by decide⟩ 1 ⟨rfl, by decide +kernel⟩ rfl [false, true, true, true, true, true, true, true, true, true, true, true, true, true, true, true, true, true, true, true, true, true, true, true, true, true, true, true, true, true, true, true, true, true, true, true, true, true, true, true, true, true, true, true, true, true, true, true, true, true, true] rfl rfl 1 rfl rfl rfl (Nat.le_of_ble_eq_true rfl) rfl dL_addToSet_4 (fun E ce q9 H1 locs1 hE w h1 h2 h3 => ?_) (fun H locs hE w => ?_)
  · rcases hk with ⟨h0, -⟩ | ⟨h0, hk1, hk2, rfl, rfl⟩ | ⟨h0, hk1, hk2, rfl, rfl⟩ | ⟨h0, hk1, hk2, rfl, rfl⟩
    · rw [h0] at hE; cases hE
    · rw [h0] at hE
      cases hE
      refine vx_catch M.1.2.2.2.1 [] ⟨0, 9, 12, 13⟩ [⟨0, 9, 15, 17⟩] htab (fun z hz => nomatch hz) (by decide) (by decide) (M.1.2.2.2.2 (.classLink RL 13 eIOB) (by decide +kernel)) (va_Nw.use rfl hT.2.2.2.1.1) h1 h2 h3 ?_
      refine q_asn (lv' := [(3, .ref q9), (0, .ref (a 0)), (1, .int (iI s)), (2, .ref o)]) M dL_addToSet_12 rfl hl (by decide) rfl (fun ls hl => ?_)
      refine q_ic M dL_addToSet_13 ?_
      exact kret _ _ _ _ _ _ _ (by decide) (by decide) dL_addToSet_14 w hk1.symm
    · exact absurd rfl hk2
    · rw [h0] at hE
      cases hE
      refine vx_catch M.1.2.2.2.1 [⟨0, 9, 12, 13⟩] ⟨0, 9, 15, 17⟩ [] htab (fun z hz => by rcases List.mem_singleton.mp hz with rfl; exact Or.inr ⟨by decide, eIOB, M.1.2.2.2.2 (.classLink RL 13 eIOB) (by decide +kernel), hT.2.2.2.2.1.2.1⟩) (by decide) (by decide) (M.1.2.2.2.2 (.classLink RL 17 eISE) (by decide +kernel)) (va_Nw.use rfl hT.2.2.2.1.2.2) h1 h2 h3 ?_
      refine q_asn (lv' := [(3, .ref q9), (0, .ref (a 0)), (1, .int (iI s)), (2, .ref o)]) M dL_addToSet_15 rfl hl (by decide) rfl (fun ls hl => ?_)
      refine q_ic M dL_addToSet_16 ?_
      exact kret _ _ _ _ _ _ _ (by decide) (by decide) dL_addToSet_17 w hk1.symm
  · rcases hk with ⟨-, hk1, hf2, hm2⟩ | ⟨h0, -⟩ | ⟨h0, -⟩ | ⟨h0, -⟩
    · refine q_i2l M dL_addToSet_7 ?_
      refine q_last0 (f := f) (z := μ 22 0 + 1) (ws2 := WL cI cJ a o (fU f (μ 22 0 + 1)) (mset (mset μ 18 (iU (μ 18) (μ 22 0) s)) 22 (fun _ => μ 22 0 + 1))) M w 0 2 rfl rfl rfl dL_addToSet_8 (fun H locs w => ?_)
      refine q_go (tgt := 18) M dL_addToSet_9 (by decide) ?_
      refine q_ic M dL_addToSet_18 ?_
      exact kret _ _ _ _ _ _ _ (by decide) (by decide) dL_addToSet_19 (by rw [hf2, hm2]; exact w) hk1.symm
    · rw [h0] at hE; cases hE
    · rw [h0] at hE; cases hE
    · rw [h0] at hE; cases hE

set_option maxHeartbeats 4000000 in
set_option maxRecDepth 100000 in
theorem l_clearSet (l : Launch) (hfl : l.stackTraces = false) (D : va_G) (cI cZ cJ : ClassId) (a : Nat → Nat) (μ : Nat → Int → Int) (o : Nat) (f : Nat → Int64) (h23 : μ 23 0 = 0 ∨ μ 23 0 = 1) (k : Int) (f2 : Nat → Int64) (μ2 : Nat → Int → Int) (hk : LK (chk (μ 23 0 = 0) eISE) 0 0 1 (μ 22 0) k f f2 μ (mset μ 22 (fun _ => 0)) μ2) : Lc l D (tY cI cZ cJ) yL_clearSet wsL_clearSet rmL_clearSet [.ref (a 0), .ref o] (WL cI cJ a o f μ) k (WL cI cJ a o f2 μ2) := by
  refine ql_of (by decide +kernel) rfl (Nat.le_of_ble_eq_true rfl) ?_
  intro zp ze zs zm zargs zbelow zmeth zc A Q ls M hA w hl hT htab kret
  have hl : lv_has ls 3 [(0, .ref (a 0)), (1, .ref o)] := hl
  refine q_aln M dL_clearSet_0 (lv_at hl 1 rfl) ?_
  refine q_ic M dL_clearSet_1 ?_
  refine q_aln M dL_clearSet_2 (lv_at hl 0 rfl) ?_
  refine qx_iV (As := []) (rest := [.int (iI 0), .ref o]) (wc := WAll cI a μ) (wc2 := WAll cI a (mset μ 22 (fun _ => 0))) (ws2 := WL cI cJ a o f (mset μ 22 (fun _ => 0))) M w hA hT hl (k_clearSet l hfl D cI cZ cJ a μ h23) gL_clearSet_X6_clearSet rfl ⟨by decide, by decide⟩ ⟨by decide, by decide⟩ 0 ⟨rfl, by decide +kernel⟩ rfl [false, true, true, true, true, true, true, true, true, true, true, true, true, true, true, true, true, true, true, true, true, true, true, true, true, true, true, true, true, true, true, true, true, true, true, true, true, true, true, true, true, true, true, true, true, true, true, true, true, true, true] rfl rfl 1 rfl rfl rfl (Nat.le_of_ble_eq_true rfl) rfl dL_clearSet_3 (fun E ce q9 H1 locs1 hE w h1 h2 h3 => ?_) (fun H locs hE w => ?_)
  · rcases hk with ⟨h0, -⟩ | ⟨h0, hk1, hk2, rfl, rfl⟩ | ⟨h0, hk1, hk2, rfl, rfl⟩ | ⟨h0, hk1, hk2, rfl, rfl⟩
    · rw [h0] at hE; cases hE
    · exact absurd rfl hk2
    · exact absurd rfl hk2
    · rw [h0] at hE
      cases hE
      refine vx_catch M.1.2.2.2.1 [] ⟨0, 8, 11, 17⟩ [] htab (fun z hz => nomatch hz) (by decide) (by decide) (M.1.2.2.2.2 (.classLink RL 17 eISE) (by decide +kernel)) (va_Nw.use rfl hT.2.2.2.1.2.2) h1 h2 h3 ?_
      refine q_asn (lv' := [(2, .ref q9), (0, .ref (a 0)), (1, .ref o)]) M dL_clearSet_11 rfl hl (by decide) rfl (fun ls hl => ?_)
      refine q_ic M dL_clearSet_12 ?_
      exact kret _ _ _ _ _ _ _ (by decide) (by decide) dL_clearSet_13 w hk1.symm
  · rcases hk with ⟨-, hk1, hf2, hm2⟩ | ⟨h0, -⟩ | ⟨h0, -⟩ | ⟨h0, -⟩
    · refine q_i2l M dL_clearSet_6 ?_
      refine q_last0 (f := f) (z := μ 22 0) (ws2 := WL cI cJ a o (fU f (μ 22 0)) (mset μ 22 (fun _ => 0))) M w 0 2 rfl rfl rfl dL_clearSet_7 (fun H locs w => ?_)
      refine q_go (tgt := 14) M dL_clearSet_8 (by decide) ?_
      refine q_ic M dL_clearSet_14 ?_
      exact kret _ _ _ _ _ _ _ (by decide) (by decide) dL_clearSet_15 (by rw [hf2, hm2]; exact w) hk1.symm
    · rw [h0] at hE; cases hE
    · rw [h0] at hE; cases hE
    · rw [h0] at hE; cases hE

set_option maxHeartbeats 4000000 in
set_option maxRecDepth 100000 in
theorem l_start (l : Launch) (hfl : l.stackTraces = false) (D : va_G) (cI cZ cJ : ClassId) (a : Nat → Nat) (μ : Nat → Int → Int) (o : Nat) (f : Nat → Int64) (h23 : μ 23 0 = 0 ∨ μ 23 0 = 1) (hP : IP μ) (hI : IH μ) (hB : IB μ) (hn : (0 < μ 22 0 ∧ ∀ i, 0 ≤ i → i < μ 22 0 → μ 13 (μ 18 i) ≠ 0) → 0 ≤ cAh (stM μ) 0 ∧ cAh (stM μ) 0 < 120) (k : Int) (f2 : Nat → Int64) (μ2 : Nat → Int → Int) (hk : LK (sq (chk (μ 23 0 = 0) eISE) (chk (0 < μ 22 0 ∧ ∀ i, 0 ≤ i → i < μ 22 0 → μ 13 (μ 18 i) ≠ 0) eISE)) 0 0 1 (sI (fun j => μ 13 (μ 18 j)) (μ 22 0)) k f f2 μ (enM (stM μ)) μ2) : Lc l D (tY cI cZ cJ) yL_start wsL_start rmL_start [.ref (a 0), .ref o] (WL cI cJ a o f μ) k (WL cI cJ a o f2 μ2) := by
  refine ql_of (by decide +kernel) rfl (Nat.le_of_ble_eq_true rfl) ?_
  intro zp ze zs zm zargs zbelow zmeth zc A Q ls M hA w hl hT htab kret
  have hl : lv_has ls 3 [(0, .ref (a 0)), (1, .ref o)] := hl
  refine q_aln M dL_start_0 (lv_at hl 1 rfl) ?_
  refine q_ic M dL_start_1 ?_
  refine q_aln M dL_start_2 (lv_at hl 0 rfl) ?_
  refine qx_iV (As := []) (rest := [.int (iI 0), .ref o]) (wc := WAll cI a μ) (wc2 := WAll cI a (enM (stM μ))) (ws2 := WL cI cJ a o f (enM (stM μ))) M w hA hT hl (k_start l hfl D cI cZ cJ a μ h23 hP hI hB hn) gL_start_X6_start rfl ⟨by decide, by decide⟩ ⟨by decide, by decide⟩ 0 ⟨rfl, by decide +kernel⟩ rfl [false, true, true, true, true, true, true, true, true, true, true, true, true, true, true, true, true, true, true, true, true, true, true, true, true, true, true, true, true, true, true, true, true, true, true, true, true, true, true, true, true, true, true, true, true, true, true, true, true, true, true] rfl rfl 1 rfl rfl rfl (Nat.le_of_ble_eq_true rfl) rfl dL_start_3 (fun E ce q9 H1 locs1 hE w h1 h2 h3 => ?_) (fun H locs hE w => ?_)
  · rcases hk with ⟨h0, -⟩ | ⟨h0, hk1, hk2, rfl, rfl⟩ | ⟨h0, hk1, hk2, rfl, rfl⟩ | ⟨h0, hk1, hk2, rfl, rfl⟩
    · rw [h0] at hE; cases hE
    · exact absurd rfl hk2
    · exact absurd rfl hk2
    · rw [h0] at hE
      cases hE
      refine vx_catch M.1.2.2.2.1 [] ⟨0, 8, 11, 17⟩ [] htab (fun z hz => nomatch hz) (by decide) (by decide) (M.1.2.2.2.2 (.classLink RL 17 eISE) (by decide +kernel)) (va_Nw.use rfl hT.2.2.2.1.2.2) h1 h2 h3 ?_
      refine q_asn (lv' := [(2, .ref q9), (0, .ref (a 0)), (1, .ref o)]) M dL_start_11 rfl hl (by decide) rfl (fun ls hl => ?_)
      refine q_ic M dL_start_12 ?_
      exact kret _ _ _ _ _ _ _ (by decide) (by decide) dL_start_13 w hk1.symm
  · rcases hk with ⟨-, hk1, hf2, hm2⟩ | ⟨h0, -⟩ | ⟨h0, -⟩ | ⟨h0, -⟩
    · refine q_i2l M dL_start_6 ?_
      refine q_last0 (f := f) (z := sI (fun j => μ 13 (μ 18 j)) (μ 22 0)) (ws2 := WL cI cJ a o (fU f (sI (fun j => μ 13 (μ 18 j)) (μ 22 0))) (enM (stM μ))) M w 0 2 rfl rfl rfl dL_start_7 (fun H locs w => ?_)
      refine q_go (tgt := 14) M dL_start_8 (by decide) ?_
      refine q_ic M dL_start_14 ?_
      exact kret _ _ _ _ _ _ _ (by decide) (by decide) dL_start_15 (by rw [hf2, hm2]; exact w) hk1.symm
    · rw [h0] at hE; cases hE
    · rw [h0] at hE; cases hE
    · rw [h0] at hE; cases hE

set_option maxHeartbeats 4000000 in
set_option maxRecDepth 100000 in
theorem l_tick (l : Launch) (hfl : l.stackTraces = false) (D : va_G) (cI cZ cJ : ClassId) (a : Nat → Nat) (μ : Nat → Int → Int) (o : Nat) (f : Nat → Int64) (n : Int) (hn : -2147483648 ≤ n ∧ n < 2147483648) (I : (Nat → Int → Int) → Prop) (h0 : I μ) (hs : ∀ m, I m → (m 23 0 = 0 ∨ m 23 0 = 1) ∧ (m 23 0 = 1 → PT m ∧ I (psT m))) (k : Int) (f2 : Nat → Int64) (μ2 : Nat → Int → Int) (hk : LK (sq (chk (1 ≤ n ∧ n ≤ 2000) eIAE) (chk (μ 23 0 = 1) eISE)) 0 1 2 (tkN μ n 31 0 - μ 31 0) k f f2 μ (tkN μ n) μ2) : Lc l D (tY cI cZ cJ) yL_tick wsL_tick rmL_tick [.ref (a 0), .int (iI n), .ref o] (WL cI cJ a o f μ) k (WL cI cJ a o f2 μ2) := by
  refine ql_of (by decide +kernel) rfl (Nat.le_of_ble_eq_true rfl) ?_
  intro zp ze zs zm zargs zbelow zmeth zc A Q ls M hA w hl hT htab kret
  have hl : lv_has ls 4 [(0, .ref (a 0)), (1, .int (iI n)), (2, .ref o)] := hl
  refine q_aln M dL_tick_0 (lv_at hl 2 rfl) ?_
  refine q_ic M dL_tick_1 ?_
  refine q_aln M dL_tick_2 (lv_at hl 0 rfl) ?_
  refine q_iln M dL_tick_3 (lv_at hl 1 rfl) ?_
  refine qx_iV (As := [.int (iI n)]) (rest := [.int (iI 0), .ref o]) (wc := WAll cI a μ) (wc2 := WAll cI a (tkN μ n)) (ws2 := WL cI cJ a o f (tkN μ n)) M w hA hT hl (k_tick l hfl D cI cZ cJ a μ n hn I h0 hs) gL_tick_X6_tick rfl ⟨by decide, by decide⟩ ⟨by decide, by decide⟩ 1 ⟨rfl, by decide +kernel⟩ rfl [false, true, true, true, true, true, true, true, true, true, true, true, true, true, true, true, true, true, true, true, true, true, true, true, true, true, true, true, true, true, true, true, true, true, true, true, true, true, true, true, true, true, true, true, true, true, true, true, true, true, true] rfl rfl 1 rfl rfl rfl (Nat.le_of_ble_eq_true rfl) rfl dL_tick_4 (fun E ce q9 H1 locs1 hE w h1 h2 h3 => ?_) (fun H locs hE w => ?_)
  · rcases hk with ⟨h0, -⟩ | ⟨h0, hk1, hk2, rfl, rfl⟩ | ⟨h0, hk1, hk2, rfl, rfl⟩ | ⟨h0, hk1, hk2, rfl, rfl⟩
    · rw [h0] at hE; cases hE
    · exact absurd rfl hk2
    · rw [h0] at hE
      cases hE
      refine vx_catch M.1.2.2.2.1 [] ⟨0, 9, 12, 15⟩ [⟨0, 9, 15, 17⟩] htab (fun z hz => nomatch hz) (by decide) (by decide) (M.1.2.2.2.2 (.classLink RL 15 eIAE) (by decide +kernel)) (va_Nw.use rfl hT.2.2.2.1.2.1) h1 h2 h3 ?_
      refine q_asn (lv' := [(3, .ref q9), (0, .ref (a 0)), (1, .int (iI n)), (2, .ref o)]) M dL_tick_12 rfl hl (by decide) rfl (fun ls hl => ?_)
      refine q_ic M dL_tick_13 ?_
      exact kret _ _ _ _ _ _ _ (by decide) (by decide) dL_tick_14 w hk1.symm
    · rw [h0] at hE
      cases hE
      refine vx_catch M.1.2.2.2.1 [⟨0, 9, 12, 15⟩] ⟨0, 9, 15, 17⟩ [] htab (fun z hz => by rcases List.mem_singleton.mp hz with rfl; exact Or.inr ⟨by decide, eIAE, M.1.2.2.2.2 (.classLink RL 15 eIAE) (by decide +kernel), hT.2.2.2.2.1.2.2⟩) (by decide) (by decide) (M.1.2.2.2.2 (.classLink RL 17 eISE) (by decide +kernel)) (va_Nw.use rfl hT.2.2.2.1.2.2) h1 h2 h3 ?_
      refine q_asn (lv' := [(3, .ref q9), (0, .ref (a 0)), (1, .int (iI n)), (2, .ref o)]) M dL_tick_15 rfl hl (by decide) rfl (fun ls hl => ?_)
      refine q_ic M dL_tick_16 ?_
      exact kret _ _ _ _ _ _ _ (by decide) (by decide) dL_tick_17 w hk1.symm
  · rcases hk with ⟨-, hk1, hf2, hm2⟩ | ⟨h0, -⟩ | ⟨h0, -⟩ | ⟨h0, -⟩
    · refine q_i2l M dL_tick_7 ?_
      refine q_last0 (f := f) (z := tkN μ n 31 0 - μ 31 0) (ws2 := WL cI cJ a o (fU f (tkN μ n 31 0 - μ 31 0)) (tkN μ n)) M w 0 2 rfl rfl rfl dL_tick_8 (fun H locs w => ?_)
      refine q_go (tgt := 18) M dL_tick_9 (by decide) ?_
      refine q_ic M dL_tick_18 ?_
      exact kret _ _ _ _ _ _ _ (by decide) (by decide) dL_tick_19 (by rw [hf2, hm2]; exact w) hk1.symm
    · rw [h0] at hE; cases hE
    · rw [h0] at hE; cases hE
    · rw [h0] at hE; cases hE

set_option maxHeartbeats 4000000 in
set_option maxRecDepth 100000 in
theorem l_skip (l : Launch) (hfl : l.stackTraces = false) (D : va_G) (cI cZ cJ : ClassId) (a : Nat → Nat) (μ : Nat → Int → Int) (o : Nat) (f : Nat → Int64) (h23 : μ 23 0 = 0 ∨ μ 23 0 = 1) (hP : IP μ) (hI : IH μ) (hB : IB μ) (hb : μ 23 0 = 1 → 0 ≤ μ 24 0 ∧ μ 24 0 < μ 22 0) (hn : μ 23 0 = 1 → μ 24 0 + 1 < μ 22 0 → 0 ≤ cAh (skM μ) 0 ∧ cAh (skM μ) 0 < 120) (k : Int) (f2 : Nat → Int64) (μ2 : Nat → Int → Int) (hk : LK (chk (μ 23 0 = 1) eISE) 0 0 1 (if μ 24 0 + 1 < μ 22 0 then μ 24 0 + 1 else -1) k f f2 μ (skE μ) μ2) : Lc l D (tY cI cZ cJ) yL_skip wsL_skip rmL_skip [.ref (a 0), .ref o] (WL cI cJ a o f μ) k (WL cI cJ a o f2 μ2) := by
  refine ql_of (by decide +kernel) rfl (Nat.le_of_ble_eq_true rfl) ?_
  intro zp ze zs zm zargs zbelow zmeth zc A Q ls M hA w hl hT htab kret
  have hl : lv_has ls 3 [(0, .ref (a 0)), (1, .ref o)] := hl
  refine q_aln M dL_skip_0 (lv_at hl 1 rfl) ?_
  refine q_ic M dL_skip_1 ?_
  refine q_aln M dL_skip_2 (lv_at hl 0 rfl) ?_
  refine qx_iV (As := []) (rest := [.int (iI 0), .ref o]) (wc := WAll cI a μ) (wc2 := WAll cI a (skE μ)) (ws2 := WL cI cJ a o f (skE μ)) M w hA hT hl (k_skip l hfl D cI cZ cJ a μ h23 hP hI hB hb hn) gL_skip_X6_skip rfl ⟨by decide, by decide⟩ ⟨by decide, by decide⟩ 0 ⟨rfl, by decide +kernel⟩ rfl [false, true, true, true, true, true, true, true, true, true, true, true, true, true, true, true, true, true, true, true, true, true, true, true, true, true, true, true, true, true, true, true, true, true, true, true, true, true, true, true, true, true, true, true, true, true, true, true, true, true, true] rfl rfl 1 rfl rfl rfl (Nat.le_of_ble_eq_true rfl) rfl dL_skip_3 (fun E ce q9 H1 locs1 hE w h1 h2 h3 => ?_) (fun H locs hE w => ?_)
  · rcases hk with ⟨h0, -⟩ | ⟨h0, hk1, hk2, rfl, rfl⟩ | ⟨h0, hk1, hk2, rfl, rfl⟩ | ⟨h0, hk1, hk2, rfl, rfl⟩
    · rw [h0] at hE; cases hE
    · exact absurd rfl hk2
    · exact absurd rfl hk2
    · rw [h0] at hE
      cases hE
      refine vx_catch M.1.2.2.2.1 [] ⟨0, 8, 11, 17⟩ [] htab (fun z hz => nomatch hz) (by decide) (by decide) (M.1.2.2.2.2 (.classLink RL 17 eISE) (by decide +kernel)) (va_Nw.use rfl hT.2.2.2.1.2.2) h1 h2 h3 ?_
      refine q_asn (lv' := [(2, .ref q9), (0, .ref (a 0)), (1, .ref o)]) M dL_skip_11 rfl hl (by decide) rfl (fun ls hl => ?_)
      refine q_ic M dL_skip_12 ?_
      exact kret _ _ _ _ _ _ _ (by decide) (by decide) dL_skip_13 w hk1.symm
  · rcases hk with ⟨-, hk1, hf2, hm2⟩ | ⟨h0, -⟩ | ⟨h0, -⟩ | ⟨h0, -⟩
    · refine q_i2l M dL_skip_6 ?_
      refine q_last0 (f := f) (z := if μ 24 0 + 1 < μ 22 0 then μ 24 0 + 1 else -1) (ws2 := WL cI cJ a o (fU f (if μ 24 0 + 1 < μ 22 0 then μ 24 0 + 1 else -1)) (skE μ)) M w 0 2 rfl rfl rfl dL_skip_7 (fun H locs w => ?_)
      refine q_go (tgt := 14) M dL_skip_8 (by decide) ?_
      refine q_ic M dL_skip_14 ?_
      exact kret _ _ _ _ _ _ _ (by decide) (by decide) dL_skip_15 (by rw [hf2, hm2]; exact w) hk1.symm
    · rw [h0] at hE; cases hE
    · rw [h0] at hE; cases hE
    · rw [h0] at hE; cases hE

set_option maxHeartbeats 4000000 in
set_option maxRecDepth 100000 in
theorem l_loaded (l : Launch) (hfl : l.stackTraces = false) (D : va_G) (cI cZ cJ : ClassId) (a : Nat → Nat) (μ : Nat → Int → Int) (o : Nat) (f : Nat → Int64) (s : Int) (hs : -2147483648 ≤ s ∧ s < 2147483648) (k : Int) (f2 : Nat → Int64) (μ2 : Nat → Int → Int) (hk : LK (chk (0 ≤ s ∧ s ≤ 7) eIOB) 1 0 0 (μ 21 s) k f f2 μ μ μ2) : Lc l D (tY cI cZ cJ) yL_loaded wsL_loaded rmL_loaded [.ref (a 0), .int (iI s), .ref o] (WL cI cJ a o f μ) k (WL cI cJ a o f2 μ2) := by
  refine ql_of (by decide +kernel) rfl (Nat.le_of_ble_eq_true rfl) ?_
  intro zp ze zs zm zargs zbelow zmeth zc A Q ls M hA w hl hT htab kret
  have hl : lv_has ls 4 [(0, .ref (a 0)), (1, .int (iI s)), (2, .ref o)] := hl
  refine q_aln M dL_loaded_0 (lv_at hl 2 rfl) ?_
  refine q_ic M dL_loaded_1 ?_
  refine q_aln M dL_loaded_2 (lv_at hl 0 rfl) ?_
  refine q_iln M dL_loaded_3 (lv_at hl 1 rfl) ?_
  refine qx_iV (As := [.int (iI s)]) (rest := [.int (iI 0), .ref o]) (wc := WAll cI a μ) (wc2 := WAll cI a μ) (ws2 := WL cI cJ a o f μ) M w hA hT hl (k_loaded l hfl D cI cZ cJ a μ s hs) gL_loaded_X6_loaded rfl ⟨by decide, by decide⟩ ⟨by decide, by decide⟩ 1 ⟨rfl, by decide +kernel⟩ rfl [false, true, true, true, true, true, true, true, true, true, true, true, true, true, true, true, true, true, true, true, true, true, true, true, true, true, true, true, true, true, true, true, true, true, true, true, true, true, true, true, true, true, true, true, true, true, true, true, true, true, true] rfl rfl 1 rfl rfl rfl (Nat.le_of_ble_eq_true rfl) rfl dL_loaded_4 (fun E ce q9 H1 locs1 hE w h1 h2 h3 => ?_) (fun H locs hE w => ?_)
  · rcases hk with ⟨h0, -⟩ | ⟨h0, hk1, hk2, rfl, rfl⟩ | ⟨h0, hk1, hk2, rfl, rfl⟩ | ⟨h0, hk1, hk2, rfl, rfl⟩
    · rw [h0] at hE; cases hE
    · rw [h0] at hE
      cases hE
      refine vx_catch M.1.2.2.2.1 [] ⟨0, 9, 12, 13⟩ [] htab (fun z hz => nomatch hz) (by decide) (by decide) (M.1.2.2.2.2 (.classLink RL 13 eIOB) (by decide +kernel)) (va_Nw.use rfl hT.2.2.2.1.1) h1 h2 h3 ?_
      refine q_asn (lv' := [(3, .ref q9), (0, .ref (a 0)), (1, .int (iI s)), (2, .ref o)]) M dL_loaded_12 rfl hl (by decide) rfl (fun ls hl => ?_)
      refine q_ic M dL_loaded_13 ?_
      exact kret _ _ _ _ _ _ _ (by decide) (by decide) dL_loaded_14 w hk1.symm
    · exact absurd rfl hk2
    · exact absurd rfl hk2
  · rcases hk with ⟨-, hk1, hf2, hm2⟩ | ⟨h0, -⟩ | ⟨h0, -⟩ | ⟨h0, -⟩
    · refine q_i2l M dL_loaded_7 ?_
      refine q_last0 (f := f) (z := μ 21 s) (ws2 := WL cI cJ a o (fU f (μ 21 s)) μ) M w 0 2 rfl rfl rfl dL_loaded_8 (fun H locs w => ?_)
      refine q_go (tgt := 15) M dL_loaded_9 (by decide) ?_
      refine q_ic M dL_loaded_15 ?_
      exact kret _ _ _ _ _ _ _ (by decide) (by decide) dL_loaded_16 (by rw [hf2, hm2]; exact w) hk1.symm
    · rw [h0] at hE; cases hE
    · rw [h0] at hE; cases hE
    · rw [h0] at hE; cases hE

set_option maxHeartbeats 4000000 in
set_option maxRecDepth 100000 in
theorem l_nextUse (l : Launch) (hfl : l.stackTraces = false) (D : va_G) (cI cZ cJ : ClassId) (a : Nat → Nat) (μ : Nat → Int → Int) (o : Nat) (f : Nat → Int64) (s : Int) (hs : -2147483648 ≤ s ∧ s < 2147483648) (h23 : μ 23 0 = 0 ∨ μ 23 0 = 1) (h26 : 0 ≤ μ 26 0 ∧ μ 26 0 < 192) (hu : ∀ i, -200 ≤ μ 19 i ∧ μ 19 i ≤ 768) (k : Int) (f2 : Nat → Int64) (μ2 : Nat → Int → Int) (hk : LK (chk (0 ≤ s ∧ s ≤ 7) eIOB) 1 0 0 (if μ 23 0 = 1 ∧ μ 19 (μ 26 0 * 8 + s) ≠ 768 then μ 19 (μ 26 0 * 8 + s) else -1) k f f2 μ μ μ2) : Lc l D (tY cI cZ cJ) yL_nextUse wsL_nextUse rmL_nextUse [.ref (a 0), .int (iI s), .ref o] (WL cI cJ a o f μ) k (WL cI cJ a o f2 μ2) := by
  refine ql_of (by decide +kernel) rfl (Nat.le_of_ble_eq_true rfl) ?_
  intro zp ze zs zm zargs zbelow zmeth zc A Q ls M hA w hl hT htab kret
  have hl : lv_has ls 4 [(0, .ref (a 0)), (1, .int (iI s)), (2, .ref o)] := hl
  refine q_aln M dL_nextUse_0 (lv_at hl 2 rfl) ?_
  refine q_ic M dL_nextUse_1 ?_
  refine q_aln M dL_nextUse_2 (lv_at hl 0 rfl) ?_
  refine q_iln M dL_nextUse_3 (lv_at hl 1 rfl) ?_
  refine qx_iV (As := [.int (iI s)]) (rest := [.int (iI 0), .ref o]) (wc := WAll cI a μ) (wc2 := WAll cI a μ) (ws2 := WL cI cJ a o f μ) M w hA hT hl (k_nextUse l hfl D cI cZ cJ a μ s hs h23 h26 hu) gL_nextUse_X6_nextUse rfl ⟨by decide, by decide⟩ ⟨by decide, by decide⟩ 1 ⟨rfl, by decide +kernel⟩ rfl [false, true, true, true, true, true, true, true, true, true, true, true, true, true, true, true, true, true, true, true, true, true, true, true, true, true, true, true, true, true, true, true, true, true, true, true, true, true, true, true, true, true, true, true, true, true, true, true, true, true, true] rfl rfl 1 rfl rfl rfl (Nat.le_of_ble_eq_true rfl) rfl dL_nextUse_4 (fun E ce q9 H1 locs1 hE w h1 h2 h3 => ?_) (fun H locs hE w => ?_)
  · rcases hk with ⟨h0, -⟩ | ⟨h0, hk1, hk2, rfl, rfl⟩ | ⟨h0, hk1, hk2, rfl, rfl⟩ | ⟨h0, hk1, hk2, rfl, rfl⟩
    · rw [h0] at hE; cases hE
    · rw [h0] at hE
      cases hE
      refine vx_catch M.1.2.2.2.1 [] ⟨0, 9, 12, 13⟩ [] htab (fun z hz => nomatch hz) (by decide) (by decide) (M.1.2.2.2.2 (.classLink RL 13 eIOB) (by decide +kernel)) (va_Nw.use rfl hT.2.2.2.1.1) h1 h2 h3 ?_
      refine q_asn (lv' := [(3, .ref q9), (0, .ref (a 0)), (1, .int (iI s)), (2, .ref o)]) M dL_nextUse_12 rfl hl (by decide) rfl (fun ls hl => ?_)
      refine q_ic M dL_nextUse_13 ?_
      exact kret _ _ _ _ _ _ _ (by decide) (by decide) dL_nextUse_14 w hk1.symm
    · exact absurd rfl hk2
    · exact absurd rfl hk2
  · rcases hk with ⟨-, hk1, hf2, hm2⟩ | ⟨h0, -⟩ | ⟨h0, -⟩ | ⟨h0, -⟩
    · refine q_i2l M dL_nextUse_7 ?_
      refine q_last0 (f := f) (z := if μ 23 0 = 1 ∧ μ 19 (μ 26 0 * 8 + s) ≠ 768 then μ 19 (μ 26 0 * 8 + s) else -1) (ws2 := WL cI cJ a o (fU f (if μ 23 0 = 1 ∧ μ 19 (μ 26 0 * 8 + s) ≠ 768 then μ 19 (μ 26 0 * 8 + s) else -1)) μ) M w 0 2 rfl rfl rfl dL_nextUse_8 (fun H locs w => ?_)
      refine q_go (tgt := 15) M dL_nextUse_9 (by decide) ?_
      refine q_ic M dL_nextUse_15 ?_
      exact kret _ _ _ _ _ _ _ (by decide) (by decide) dL_nextUse_16 (by rw [hf2, hm2]; exact w) hk1.symm
    · rw [h0] at hE; cases hE
    · rw [h0] at hE; cases hE
    · rw [h0] at hE; cases hE
