/-! THROWS: contracts of methods that return or throw -/
abbrev eIOB : String := "java/lang/IndexOutOfBoundsException"
abbrev eIAE : String := "java/lang/IllegalArgumentException"
abbrev eISE : String := "java/lang/IllegalStateException"
abbrev nmsT : List String := ["java/lang/RuntimeException", "java/lang/Exception"]
noncomputable def chk (P : Prop) (E : String) : Option String := @ite (Option String) P (Classical.propDecidable P) none (some E)
theorem chk_n {P : Prop} {E : String} (h : chk P E = none) : P := by
  unfold chk at h
  by_cases q : P
  · exact q
  · rw [if_neg q] at h; cases h
theorem chk_t {P : Prop} {E : String} (h : P) : chk P E = none := by unfold chk; exact if_pos h
theorem chk_f {P : Prop} {E : String} (h : ¬ P) : chk P E = some E := by unfold chk; exact if_neg h
theorem chk_x {P : Prop} {E E2 : String} (h : chk P E = some E2) : ¬ P := by
  intro q
  rw [chk_t q] at h
  cases h
theorem chk_e {P : Prop} {E E2 : String} (h : chk P E = some E2) : ¬ P ∧ E = E2 := by
  refine ⟨chk_x h, ?_⟩
  rw [chk_f (chk_x h)] at h
  exact Option.some.inj h
def sq (a b : Option String) : Option String := match a with
  | some e => some e
  | none => b
/-- what a throw needs of the tables, and of the String constants -/
def qE (U : State) : Prop :=
  (va_Nw (.declares (Bundle.initS "java/lang/RuntimeException")) U ∧ va_Nw (.declares (Bundle.initS "java/lang/Exception")) U ∧ va_Nw (.declares (Bundle.initS Bundle.tN)) U) ∧
  (va_Nw (.castable eIOB eIOB) U ∧ va_Nw (.castable eIAE eIAE) U ∧ va_Nw (.castable eISE eISE) U) ∧
  (va_Nc eIAE eISE U ∧ va_Nc eIOB eISE U ∧ va_Nc eIOB eISE U) ∧
  (∃ a, vk_R RX6 120 "the song has 8 entries" a U) ∧ (∃ a, vk_R RX6 148 "the set list has 8 songs" a U) ∧ (∃ a, vk_R RX6 159 "the set list is empty, or one of its songs has no bar" a U) ∧
  (∃ a, vk_R RX6 242 "there is none of this number" a U) ∧ (∃ a, vk_R RX6 247 "an argument is out of its range" a U) ∧ (∃ a, vk_R RX6 250 "the set is not played" a U) ∧ (∃ a, vk_R RX6 252 "the set is played" a U)
theorem ex_warm {own tx : String} {k : Nat} {s U : State} (hW : s.WarmedH U.vm) (h : ∃ a, vk_R own k tx a s) : ∃ a, vk_R own k tx a U := by
  obtain ⟨a, h⟩ := h
  exact ⟨a, h.warm hW⟩
theorem ex_same {own tx : String} {k : Nat} {s U : State} (hW : U.vm = s.vm) (h : ∃ a, vk_R own k tx a s) : ∃ a, vk_R own k tx a U := by
  obtain ⟨a, h⟩ := h
  exact ⟨a, h.same hW⟩
theorem qE_warm {s U : State} (hW : s.WarmedH U.vm) (h : qE s) : qE U := by
  obtain ⟨⟨a1, a2, a3⟩, ⟨b1, b2, b3⟩, ⟨c1, c2, c3⟩, d1, d2, d3, d4, d5, d6, d7⟩ := h
  exact ⟨⟨a1.warmD hW, a2.warmD hW, a3.warmD hW⟩, ⟨b1.warmC hW, b2.warmC hW, b3.warmC hW⟩, ⟨c1.moved hW.alike, c2.moved hW.alike, c3.moved hW.alike⟩, ex_warm hW d1, ex_warm hW d2, ex_warm hW d3, ex_warm hW d4, ex_warm hW d5, ex_warm hW d6, ex_warm hW d7⟩
theorem qE_same {s U : State} (hv : U.vm = s.vm) (h : qE s) : qE U := by
  obtain ⟨⟨a1, a2, a3⟩, ⟨b1, b2, b3⟩, ⟨c1, c2, c3⟩, d1, d2, d3, d4, d5, d6, d7⟩ := h
  have hA : s.vm.Alike U.vm := by rw [hv]; exact Vm.Alike.refl _
  exact ⟨⟨va_Nw.same rfl hv.symm a1, va_Nw.same rfl hv.symm a2, va_Nw.same rfl hv.symm a3⟩, ⟨va_Nw.same rfl hv.symm b1, va_Nw.same rfl hv.symm b2, va_Nw.same rfl hv.symm b3⟩, ⟨c1.moved hA, c2.moved hA, c3.moved hA⟩, ex_same hv d1, ex_same hv d2, ex_same hv d3, ex_same hv d4, ex_same hv d5, ex_same hv d6, ex_same hv d7⟩
/-- .. and of Throwable's two statics, which no cell of A is -/
def qT (A : Nat → Prop) (U : State) (H : Heap) : Prop := vx_Zq Bundle.tN "UNASSIGNED_STACK" Bundle.steD A U H ∧ vx_Zq Bundle.tN "SUPPRESSED_SENTINEL" Bundle.listD A U H ∧ qE U
def qXB (D : va_G) (tys : List (ClassId × FieldType)) (ws : va_W) (sz : Nat) : State → Prop := fun U => qB D tys ws sz U ∧ qT (va_A ws sz) U U.heap
theorem qXB_blind {av : List Value} {D : va_G} {tys : List (ClassId × FieldType)} {ws : va_W} {sz : Nat} : FrameBlind (va_Pc av (qXB D tys ws sz)) := fun a U g mk q => by
  obtain ⟨q0, ⟨q1, qP, qK, qD⟩, t1, t2, t3⟩ := q
  exact ⟨q0, ⟨q1, qP, va_K.moved (u := U) (U := U.calling g mk a) (Vm.Alike.refl U.vm) qK, qD⟩, vx_Zq.moved (u := U) (U := U.calling g mk a) (Vm.Alike.refl U.vm) t1, vx_Zq.moved (u := U) (U := U.calling g mk a) (Vm.Alike.refl U.vm) t2, qE_same (s := U) (U := U.calling g mk a) rfl t3⟩
theorem qT_in {A : Nat → Prop} {s U : State} {H : Heap} {locs : List Loc} {wc : va_W} (hT : qT A s s.heap) (hS : va_S A s.heap H locs) (hF : ∀ q, va_A wc H.size q → A q) (hW : s.WarmedH U.vm) (hU : U.heap = H) : qT (va_A wc H.size) U U.heap := by
  rw [hU]
  exact ⟨((hT.1.kept hS.2.1).narrow hF).moved hW.alike, ((hT.2.1.kept hS.2.1).narrow hF).moved hW.alike, qE_warm hW hT.2.2⟩
theorem qMg_self : ∀ (bs : List Bool) (ws : va_W), qMg bs (qSel bs ws) ws = ws
  | [], ws => rfl
  | b :: bs, [] => by cases b <;> rfl
  | true :: bs, x :: ws => by
    show x :: qMg bs (qSel bs ws) ws = x :: ws
    rw [qMg_self bs ws]
  | false :: bs, x :: ws => by
    show x :: qMg bs (qSel bs ws) ws = x :: ws
    rw [qMg_self bs ws]
def xXC (D : va_G) (ws : va_W) (sz : Nat) (ex : Option String) : String → State → State → Prop := vx_X (fun (_ : Unit) => True) (fun E _ t => ex = some E ∧ va_P D vwCl ws t.heap) (va_A ws sz)
def Xi (l : Launch) (D : va_G) (tys : List (ClassId × FieldType)) (y : MethodName) (wds : List Cond) (rm : Room) (av : List Value) (ws : va_W) (ex : Option String) (z : Int) (ws2 : va_W) : Prop :=
  ∀ sz : Nat, vx_Met l y wds rm (va_Pc av (qXB D tys ws sz)) (va_Qi (fun (r : Int32) (_ : Unit) => ex = none ∧ r = iI z) (fun _ t => va_P D vwCl ws2 t.heap) (va_A ws sz)) (xXC D ws sz ex) rm.cells rm.slots (va_A ws sz)
def Xv (l : Launch) (D : va_G) (tys : List (ClassId × FieldType)) (y : MethodName) (wds : List Cond) (rm : Room) (av : List Value) (ws : va_W) (ex : Option String) (ws2 : va_W) : Prop :=
  ∀ sz : Nat, vx_Met l y wds rm (va_Pc av (qXB D tys ws sz)) (va_Qv (fun (_ : Unit) => ex = none) (fun _ t => va_P D vwCl ws2 t.heap) (va_A ws sz)) (xXC D ws sz ex) rm.cells rm.slots (va_A ws sz)
/-- the ends of a body that may throw -/
def xOut (p : Program) (l : Launch) (e : Env) (rm : Room) (s : State) (m : MethodId) (args : Array Value) (below : List Frame) (meth : Method) (c : Code) (D : va_G) (A : Nat → Prop) (ws : va_W) (ex : Option String) (Q : State → Prop) : Prop :=
  ∀ (pc : Nat) (ls : Array Slot) (rest : List Value) (H : Heap) (locs : List Loc) (k n : Nat) (E : String) (ce : Cell) (q : Addr), k ≤ rm.cells → n ≤ rm.slots → wW D A s.heap ws H locs → H[q]? = some ce → ce.vm = .none → s.vm.findClass E = some ce.cls → ex = some E → vx_W p l e rm s m args below meth c H locs k n Q (F0 m pc ls rest) q
def xThr (p : Program) (l : Launch) (e : Env) (rm : Room) (s : State) (m : MethodId) (args : Array Value) (below : List Frame) (meth : Method) (c : Code) (cc : ByteArray) (nL : Nat) (own : String) (wds : List Cond) (D : va_G) (A : Nat → Prop) (ws : va_W) (ex : Option String) (Q : State → Prop) : Prop :=
  ∀ (cls text : String) (ik is ic pc : Nat) (ls : Array Slot) (rest : List Value) (H : Heap) (locs : List Loc) (k n : Nat) (lv : List (Nat × Value)), Bundle.fit cls = true → Cond.classLink own ik cls ∈ wds → Cond.initialized cls ∈ wds → (∃ sa, vk_R own is text sa s) →
    (∀ w ∈ (vx_atS own ic cls nmsT).filter goodWord, w ∈ wds) → (∀ w ∈ (vx_atS own ic cls nmsT).filter (fun w => !goodWord w), w ∈ [Cond.declares (Bundle.initS "java/lang/RuntimeException"), Cond.declares (Bundle.initS "java/lang/Exception"), Cond.declares (Bundle.initS Bundle.tN), Cond.castable cls cls]) → va_Nw (.castable cls cls) s →
    (∀ w ∈ Cond.classLink own ik cls :: Cond.initialized cls :: vx_atS own ic cls nmsT, vx_ot w = true) → lv_has ls nL lv → wW D A s.heap ws H locs →
    decode cc pc = .ok (.new ik, 3) → decode cc (pc + 3) = .ok (.dup, 1) → decode cc (pc + 4) = .ok (.ldc is, 2) → decode cc (pc + 6) = .ok (.invokespecial ic, 3) → decode cc (pc + 9) = .ok (.athrow, 1) →
    5 < rm.frames → (rest.map fun v => v.category).sum + 82 ≤ rm.locals → k + 1 ≤ rm.cells → n + 6 ≤ rm.slots → ex = some cls → W p l e rm s m args below meth c H locs k n Q (F0 m pc ls rest)
theorem x_ends {p : Program} {l : Launch} {e : Env} {rm : Room} {s : State} {m : MethodId} {args : Array Value} {below : List Frame} {meth : Method} {c : Code} {cc : ByteArray} {nL : Nat} {own : String} {wds : List Cond} {D : va_G} {tys : List (ClassId × FieldType)} {ws : va_W} {ex : Option String} {Qc : Array Value → State → Outcome → State → Prop}
    (hfl : l.stackTraces = false) (M : qM p m c cc nL s args wds own D tys) (hT : qT (va_A ws s.heap.size) s s.heap) (hlocks : meth.locks = false) (hno : c.exceptionTable.isEmpty = true) :
    xOut p l e rm s m args below meth c D (va_A ws s.heap.size) ws ex (vx_MQ below Qc (xXC D ws s.heap.size ex) args s rm.cells rm.slots (va_A ws s.heap.size)) ∧ xThr p l e rm s m args below meth c cc nL own wds D (va_A ws s.heap.size) ws ex (vx_MQ below Qc (xXC D ws s.heap.size ex) args s rm.cells rm.slots (va_A ws s.heap.size)) := by
  have he : c.exceptionTable.toList = [] := by
    have := Array.isEmpty_iff.mp hno
    rw [this]
  refine ⟨fun pc ls rest H locs k n E ce q hk hn w h1 h2 h3 hex => ?_, ?_⟩
  · exact vx_out (by rw [he]; intro x hx; cases hx) hlocks h1 h2 h3 (fun t ht hal => ⟨(), trivial, ⟨hex, by rw [ht]; exact w.1⟩, w.2.2.F ht⟩) w.2.2.2.2 hk hn
  · intro cls text ik is ic pc ls rest H locs k n lv hfit hk hini hstr hg1 hg2 hcast hgood hl w d0 d3 d4 d6 d9 hfr hlo hce hsl hex
    obtain ⟨sa, hstr⟩ := hstr
    obtain ⟨⟨a1, a2, a3⟩, -⟩ := hT.2.2
    refine vx_throwS (A := va_A ws s.heap.size) (names := nmsT) M.1.1 M.1.2.1 hfl M.1.2.2.2.1 hfit (by decide +kernel) (M.1.2.2.2.2 _ hk) (M.1.2.2.2.2 _ hini) hstr ?_ hgood hT.1 hT.2.1 w.2.2 (by rw [M.1.2.2.1]; exact hl.1) d0 d3 d4 d6 d9 (by rw [he]; intro x hx; cases hx) (by show 2 + 3 < rm.frames; omega) (by show _ + (13 * (2 + 1) + 43) ≤ rm.locals; omega) hce hsl hlocks ?_ w.2.2.2.2 hce hsl
    · exact vx_hat (fun w hw => M.1.2.2.2.2 w (hg1 w hw)) hg2 (vx_c (va_Nw.use rfl a1) (vx_c (va_Nw.use rfl a2) (vx_c (va_Nw.use rfl a3) (vx_c (va_Nw.use rfl hcast) vx_n))))
    · intro t hal hz hq
      refine ⟨(), trivial, ⟨hex, w.1.kept fun k q hkq => hq q.1 (w.1 k q hkq).lt⟩, ?_⟩
      exact ⟨Nat.le_trans w.2.2.1 hz, fun q h1 h2 => by rw [hq q (Nat.lt_of_lt_of_le h1 w.2.2.1)]; exact w.2.2.2.1 q h1 h2⟩
theorem xi_of {l : Launch} {D : va_G} {tys : List (ClassId × FieldType)} {y : MethodName} {wds wds' : List Cond} {rm : Room} {av : List Value} {ws ws2 : va_W} {ex : Option String} {z : Int} {cc : ByteArray} {maxL : Nat} {ty : FieldType} (hfl : l.stackTraces = false) (hy : plainName y.cls = true) (hw : wds = Cond.code y cc maxL (some ty) :: wds') (hlen : (lg_sl av).length ≤ maxL) (hty : ty = .int ∨ ty = .boolean ∧ (z = 0 ∨ z = 1))
    (body : ∀ (p : Program) (e : Env) (s : State) (m : MethodId) (args : Array Value) (below : List Frame) (meth : Method) (c : Code) (A : Nat → Prop) (Q : State → Prop) (ls : Array Slot), qM p m c cc maxL s args wds y.cls D tys → (∀ q : Nat, s.heap.size ≤ q → A q) → wW D A s.heap ws s.heap [] → lv_has ls maxL (lv_args 0 av) → qT A s s.heap →
      (∀ (pc : Nat) (ls1 : Array Slot) (H1 : Heap) (locs1 : List Loc) (z1 : Int) (k n : Nat), k ≤ rm.cells → n ≤ rm.slots → decode cc pc = .ok (.ireturn, 1) → wW D A s.heap ws2 H1 locs1 → ex = none → z1 = z → W p l e rm s m args below meth c H1 locs1 k n Q (F0 m pc ls1 [.int (iI z1)])) →
      xOut p l e rm s m args below meth c D A ws ex Q → xThr p l e rm s m args below meth c cc maxL y.cls wds D A ws ex Q →
      W p l e rm s m args below meth c s.heap [] 0 0 Q (F0 m 0 ls [])) : Xi l D tys y wds rm av ws ex z ws2 := by
  intro sz
  refine vx_ofW (cc := cc) (maxL := maxL) (ret := some ty) hy hw ?_
  intro p e s m args below meth c s₁ B hml hno0 hv
  obtain ⟨rfl, ⟨hsz, hP, hK, hD0⟩, hT⟩ := hv
  have hlocks := B.notSynchronized
  subst hsz
  rw [lg_entry_eq]
  have hl := lv_entry av (n := maxL) hlen
  have hts := atoms_spec (ws := wds) B.pre
  have M : qM p m c cc maxL s av.toArray wds y.cls D tys := ⟨⟨B.exec, B.bytes, hml, findClass_of_methodNamed B.named, hts⟩, hK⟩
  obtain ⟨k1, k2⟩ := x_ends (p := p) (e := e) (rm := rm) (args := av.toArray) (below := below) (ex := ex) (Qc := va_Qi (fun (r : Int32) (_ : Unit) => ex = none ∧ r = iI z) (fun _ t => va_P D vwCl ws2 t.heap) (va_A ws s.heap.size)) hfl M hT hlocks (B.noHandlers (hts _ (by rw [hw]; exact List.mem_cons_self)))
  refine body p e s m _ below meth c (va_A ws s.heap.size) _ _ M (fun q h => Or.inr h) ⟨hP, hD0.self, va_S.rf⟩ hl hT ?_ k1 k2
  intro pc ls1 H1 locs1 z1 k n hk hn hdg w1 hex hz
  subst hz
  have hnar : narrow ty (.int (iI z1)) = .int (iI z1) := by
    rcases hty with h | ⟨h, h2⟩
    · rw [h]; rfl
    · rw [h]; exact q_nz2 h2
  refine W.widen (k := rm.cells) (n := rm.slots) hk hn (vx_ret ?_)
  exact W.zret B.exec B.bytes B.returns hnar (fun t ht _ => ⟨⟨_, (), rfl, ⟨hex, rfl⟩, by show va_P D vwCl ws2 t.heap; rw [ht]; exact w1.1⟩, w1.2.2.F ht⟩) w1.2.2.2.2 hdg
theorem xv_of {l : Launch} {D : va_G} {tys : List (ClassId × FieldType)} {y : MethodName} {wds wds' : List Cond} {rm : Room} {av : List Value} {ws ws2 : va_W} {ex : Option String} {cc : ByteArray} {maxL : Nat} (hfl : l.stackTraces = false) (hy : plainName y.cls = true) (hw : wds = Cond.code y cc maxL none :: wds') (hlen : (lg_sl av).length ≤ maxL)
    (body : ∀ (p : Program) (e : Env) (s : State) (m : MethodId) (args : Array Value) (below : List Frame) (meth : Method) (c : Code) (A : Nat → Prop) (Q : State → Prop) (ls : Array Slot), qM p m c cc maxL s args wds y.cls D tys → (∀ q : Nat, s.heap.size ≤ q → A q) → wW D A s.heap ws s.heap [] → lv_has ls maxL (lv_args 0 av) → qT A s s.heap →
      (∀ (pc : Nat) (ls1 : Array Slot) (H1 : Heap) (locs1 : List Loc) (k n : Nat), k ≤ rm.cells → n ≤ rm.slots → decode cc pc = .ok (.return_, 1) → wW D A s.heap ws2 H1 locs1 → ex = none → W p l e rm s m args below meth c H1 locs1 k n Q (F0 m pc ls1 [])) →
      xOut p l e rm s m args below meth c D A ws ex Q → xThr p l e rm s m args below meth c cc maxL y.cls wds D A ws ex Q →
      W p l e rm s m args below meth c s.heap [] 0 0 Q (F0 m 0 ls [])) : Xv l D tys y wds rm av ws ex ws2 := by
  intro sz
  refine vx_ofW (cc := cc) (maxL := maxL) (ret := none) hy hw ?_
  intro p e s m args below meth c s₁ B hml hno0 hv
  obtain ⟨rfl, ⟨hsz, hP, hK, hD0⟩, hT⟩ := hv
  have hlocks := B.notSynchronized
  subst hsz
  rw [lg_entry_eq]
  have hl := lv_entry av (n := maxL) hlen
  have hts := atoms_spec (ws := wds) B.pre
  have M : qM p m c cc maxL s av.toArray wds y.cls D tys := ⟨⟨B.exec, B.bytes, hml, findClass_of_methodNamed B.named, hts⟩, hK⟩
  obtain ⟨k1, k2⟩ := x_ends (p := p) (e := e) (rm := rm) (args := av.toArray) (below := below) (ex := ex) (Qc := va_Qv (fun (_ : Unit) => ex = none) (fun _ t => va_P D vwCl ws2 t.heap) (va_A ws s.heap.size)) hfl M hT hlocks (B.noHandlers (hts _ (by rw [hw]; exact List.mem_cons_self)))
  refine body p e s m _ below meth c (va_A ws s.heap.size) _ _ M (fun q h => Or.inr h) ⟨hP, hD0.self, va_S.rf⟩ hl hT ?_ k1 k2
  intro pc ls1 H1 locs1 k n hk hn hdg w1 hex
  refine W.widen (k := rm.cells) (n := rm.slots) hk hn (vx_ret ?_)
  exact W.vret B.exec B.bytes B.returns (fun t ht _ => ⟨⟨(), rfl, hex, by show va_P D vwCl ws2 t.heap; rw [ht]; exact w1.1⟩, w1.2.2.F ht⟩) w1.2.2.2.2 hdg
section QX
variable {p : Program} {l : Launch} {e : Env} {R : Room} {s : State} {m : MethodId} {args : Array Value} {below : List Frame} {meth : Method} {c : Code} {H : Heap} {locs : List Loc} {cells slots : Nat} {Q : State → Prop} {cc bytes : ByteArray} {nL maxL index pc : Nat} {ls : Array Slot} {rest As st0 : List Value} {Ts wds wds' : List Cond} {own C : String} {D : va_G} {tys : List (ClassId × FieldType)} {A : Nat → Prop} {ws wc wc2 ws2 : va_W} {b : Nat} {y : MethodName} {rm : Room} {z : Int} {ret : Option FieldType} {lv : List (Nat × Value)} {ex : Option String}
theorem qx_vS (M : qM p m c cc nL s args Ts own D tys) (w : wW D A s.heap ws H locs) (hA : ∀ q : Nat, s.heap.size ≤ q → A q) (hT : qT A s s.heap) (hl : lv_has ls nL lv) (hC : Xv l D tys y wds rm As wc ex wc2) (hg : GoodIn Ts (va_wsS own index y wds)) (hw : wds = Cond.code y bytes maxL ret :: wds')
    (hrm : rm.frames + 1 ≤ R.frames ∧ 8 + (maxL + 11) + rm.locals ≤ R.locals) (hcs : cells + rm.cells ≤ R.cells ∧ slots + rm.slots ≤ R.slots) (n : Nat) (hd : y.cls ≠ "java/lang/invoke/MethodHandle" ∧ y.cls ≠ "java/lang/invoke/VarHandle" ∧ (parseMethodDescriptor y.desc).map (fun d => d.parameters.length) = some n) (hn : As.length = n)
    (bs : List Bool) (hwc : qSel bs ws = wc) (hfst : wc2.map Prod.fst = wc.map Prod.fst)
    (hst : st0 = As.reverse ++ rest) (hrest : (rest.map fun v => v.category).sum ≤ 8) (h2 : qMg bs wc2 ws = ws2) (hdg : decode cc pc = .ok (.invokestatic index, 3))
    (kx : ∀ (E : String) (ce : Cell) (q9 : Addr) (H1 : Heap) (locs1 : List Loc), ex = some E → wW D A s.heap ws H1 locs1 → H1[q9]? = some ce → ce.vm = .none → s.vm.findClass E = some ce.cls → vx_W p l e R s m args below meth c H1 locs1 (cells + rm.cells) (slots + rm.slots) Q (F0 m pc ls rest) q9)
    (kk : ∀ (H1 : Heap) (locs1 : List Loc), ex = none → wW D A s.heap ws2 H1 locs1 → W p l e R s m args below meth c H1 locs1 (cells + rm.cells) (slots + rm.slots) Q (F0 m (pc + 3) ls rest)) : W p l e R s m args below meth c H locs cells slots Q (F0 m pc ls st0) := by
  subst hwc
  have hP : va_P D vwCl (qSel bs ws) H ∧ va_D (fun _ => True) (qSel bs ws) := ⟨qSel_P w.1 bs, (qSel_D w.2.1 bs).weaken (fun _ _ _ _ => trivial)⟩
  have hF := qSel_free w.2.1 w.2.2 hA bs
  refine vx_callv (vx_runS (As := As) (rest := rest) M.1 (hC H.size) (va_cwS n M.1.2.2.2.2 hg hw rfl rfl hd hrm) ⟨qXB_blind, fun U hU hW => ⟨rfl, ⟨by rw [hU], by rw [hU]; exact hP.1, va_K.moved hW.alike M.2, hP.2⟩, qT_in hT w.2.2 hF hW hU⟩⟩ rfl hn hl.1 hst (lv_room hrest) hdg hcs) w.2.2 (fun q _ h => hF q h) hF (fun q _ h => hF q h) (fun E ce q9 u t H1 locs1 ht hvm _ hB hz1 hk1 hS h1 h2 h3 => ?_) (fun u t H1 locs1 ht hvm hr hB hz1 hk1 hS => ?_)
  · obtain ⟨g1, g2⟩ := qMg_W w.1 w.2.1 bs rfl hk1 (by rw [← ht]; exact hB.2)
    rw [qMg_self] at g1 g2
    exact kx E ce q9 H1 locs1 hB.1 ⟨g1, g2, hS⟩ h1 h2 h3
  · rw [ht] at hB
    obtain ⟨g1, g2⟩ := qMg_W w.1 w.2.1 bs hfst hk1 hB
    exact kk H1 locs1 hr (h2 ▸ ⟨g1, g2, hS⟩)
theorem qx_vV (M : qM p m c cc nL s args Ts own D tys) (w : wW D A s.heap ws H locs) (hA : ∀ q : Nat, s.heap.size ≤ q → A q) (hT : qT A s s.heap) (hl : lv_has ls nL lv) (hC : Xv l D tys y wds rm (.ref b :: As) wc ex wc2) (hg : GoodIn Ts (wsV own index C y wds)) (hw : wds = Cond.code y bytes maxL ret :: wds')
    (hrm : rm.frames + 1 ≤ R.frames ∧ 8 + (maxL + 11) + rm.locals ≤ R.locals) (hcs : cells + rm.cells ≤ R.cells ∧ slots + rm.slots ≤ R.slots) (n : Nat) (hd : y.cls = C ∧ y.cls ≠ "java/lang/invoke/MethodHandle" ∧ y.cls ≠ "java/lang/invoke/VarHandle" ∧ (parseMethodDescriptor y.desc).map (fun d => d.parameters.length) = some n) (hn : As.length = n)
    (bs : List Bool) (hwc : qSel bs ws = wc) (hfst : wc2.map Prod.fst = wc.map Prod.fst) (q0 : Nat) {ci : Nat} {fs : List Value} {T : u_T} {N : Nat} (he : ws[q0]? = some (b, .inr (ci, fs))) (hc : vwCl[ci]? = some (C, T, N))
    (hst : st0 = As.reverse ++ .ref b :: rest) (hrest : (rest.map fun v => v.category).sum ≤ 8) (h2 : qMg bs wc2 ws = ws2) (hdg : decode cc pc = .ok (.invokevirtual index, 3))
    (kx : ∀ (E : String) (ce : Cell) (q9 : Addr) (H1 : Heap) (locs1 : List Loc), ex = some E → wW D A s.heap ws H1 locs1 → H1[q9]? = some ce → ce.vm = .none → s.vm.findClass E = some ce.cls → vx_W p l e R s m args below meth c H1 locs1 (cells + rm.cells) (slots + rm.slots) Q (F0 m pc ls rest) q9)
    (kk : ∀ (H1 : Heap) (locs1 : List Loc), ex = none → wW D A s.heap ws2 H1 locs1 → W p l e R s m args below meth c H1 locs1 (cells + rm.cells) (slots + rm.slots) Q (F0 m (pc + 3) ls rest)) : W p l e R s m args below meth c H locs cells slots Q (F0 m pc ls st0) := by
  subst hwc
  have hP : va_P D vwCl (qSel bs ws) H ∧ va_D (fun _ => True) (qSel bs ws) := ⟨qSel_P w.1 bs, (qSel_D w.2.1 bs).weaken (fun _ _ _ _ => trivial)⟩
  have hF := qSel_free w.2.1 w.2.2 hA bs
  refine vx_callv (vx_runV (As := As) (rest := rest) M.1 (hC H.size) (cwV n M.1.2.2.2.2 hg hw rfl rfl hd hrm) ⟨qXB_blind, va_recv M.2 w.1 hc he, fun U hU hW => ⟨rfl, ⟨by rw [hU], by rw [hU]; exact hP.1, va_K.moved hW.alike M.2, hP.2⟩, qT_in hT w.2.2 hF hW hU⟩⟩ rfl hn hl.1 hst (lv_room hrest) hdg hcs) w.2.2 (fun q _ h => hF q h) hF (fun q _ h => hF q h) (fun E ce q9 u t H1 locs1 ht hvm _ hB hz1 hk1 hS h1 h2 h3 => ?_) (fun u t H1 locs1 ht hvm hr hB hz1 hk1 hS => ?_)
  · obtain ⟨g1, g2⟩ := qMg_W w.1 w.2.1 bs rfl hk1 (by rw [← ht]; exact hB.2)
    rw [qMg_self] at g1 g2
    exact kx E ce q9 H1 locs1 hB.1 ⟨g1, g2, hS⟩ h1 h2 h3
  · rw [ht] at hB
    obtain ⟨g1, g2⟩ := qMg_W w.1 w.2.1 bs hfst hk1 hB
    exact kk H1 locs1 hr (h2 ▸ ⟨g1, g2, hS⟩)
theorem qx_iV (M : qM p m c cc nL s args Ts own D tys) (w : wW D A s.heap ws H locs) (hA : ∀ q : Nat, s.heap.size ≤ q → A q) (hT : qT A s s.heap) (hl : lv_has ls nL lv) (hC : Xi l D tys y wds rm (.ref b :: As) wc ex z wc2) (hg : GoodIn Ts (wsV own index C y wds)) (hw : wds = Cond.code y bytes maxL ret :: wds')
    (hrm : rm.frames + 1 ≤ R.frames ∧ 8 + (maxL + 11) + rm.locals ≤ R.locals) (hcs : cells + rm.cells ≤ R.cells ∧ slots + rm.slots ≤ R.slots) (n : Nat) (hd : y.cls = C ∧ y.cls ≠ "java/lang/invoke/MethodHandle" ∧ y.cls ≠ "java/lang/invoke/VarHandle" ∧ (parseMethodDescriptor y.desc).map (fun d => d.parameters.length) = some n) (hn : As.length = n)
    (bs : List Bool) (hwc : qSel bs ws = wc) (hfst : wc2.map Prod.fst = wc.map Prod.fst) (q0 : Nat) {ci : Nat} {fs : List Value} {T : u_T} {N : Nat} (he : ws[q0]? = some (b, .inr (ci, fs))) (hc : vwCl[ci]? = some (C, T, N))
    (hst : st0 = As.reverse ++ .ref b :: rest) (hrest : (rest.map fun v => v.category).sum ≤ 8) (h2 : qMg bs wc2 ws = ws2) (hdg : decode cc pc = .ok (.invokevirtual index, 3))
    (kx : ∀ (E : String) (ce : Cell) (q9 : Addr) (H1 : Heap) (locs1 : List Loc), ex = some E → wW D A s.heap ws H1 locs1 → H1[q9]? = some ce → ce.vm = .none → s.vm.findClass E = some ce.cls → vx_W p l e R s m args below meth c H1 locs1 (cells + rm.cells) (slots + rm.slots) Q (F0 m pc ls rest) q9)
    (kk : ∀ (H1 : Heap) (locs1 : List Loc), ex = none → wW D A s.heap ws2 H1 locs1 → W p l e R s m args below meth c H1 locs1 (cells + rm.cells) (slots + rm.slots) Q (F0 m (pc + 3) ls (.int (iI z) :: rest))) : W p l e R s m args below meth c H locs cells slots Q (F0 m pc ls st0) := by
  subst hwc
  have hP : va_P D vwCl (qSel bs ws) H ∧ va_D (fun _ => True) (qSel bs ws) := ⟨qSel_P w.1 bs, (qSel_D w.2.1 bs).weaken (fun _ _ _ _ => trivial)⟩
  have hF := qSel_free w.2.1 w.2.2 hA bs
  refine vx_calli (vx_runV (As := As) (rest := rest) M.1 (hC H.size) (cwV n M.1.2.2.2.2 hg hw rfl rfl hd hrm) ⟨qXB_blind, va_recv M.2 w.1 hc he, fun U hU hW => ⟨rfl, ⟨by rw [hU], by rw [hU]; exact hP.1, va_K.moved hW.alike M.2, hP.2⟩, qT_in hT w.2.2 hF hW hU⟩⟩ rfl hn hl.1 hst (lv_room hrest) hdg hcs) w.2.2 (fun q _ h => hF q h) hF (fun q _ h => hF q h) (fun E ce q9 u t H1 locs1 ht hvm _ hB hz1 hk1 hS h1 h2 h3 => ?_) (fun r u t H1 locs1 ht hvm hr hB hz1 hk1 hS => ?_)
  · obtain ⟨g1, g2⟩ := qMg_W w.1 w.2.1 bs rfl hk1 (by rw [← ht]; exact hB.2)
    rw [qMg_self] at g1 g2
    exact kx E ce q9 H1 locs1 hB.1 ⟨g1, g2, hS⟩ h1 h2 h3
  · rw [ht] at hB
    obtain ⟨hr1, hr2⟩ := hr
    subst hr2
    obtain ⟨g1, g2⟩ := qMg_W w.1 w.2.1 bs hfst hk1 hB
    exact kk H1 locs1 hr1 (h2 ▸ ⟨g1, g2, hS⟩)
end QX
