/-! CONTRACTS BY PREDICATE; bits -/
def shR (a b : Int) : Int := ((iI a) >>> ((iI b) &&& 31)).toInt
def shL (a b : Int) : Int := ((iI a) <<< ((iI b) &&& 31)).toInt
def anI (a b : Int) : Int := ((iI a) &&& (iI b)).toInt
def orI (a b : Int) : Int := ((iI a) ||| (iI b)).toInt
def xoI (a b : Int) : Int := ((iI a) ^^^ (iI b)).toInt
theorem i32_r (x : Int32) : -2147483648 ≤ x.toInt ∧ x.toInt < 2147483648 := ⟨Int32.le_toInt _, Int32.toInt_lt _⟩
theorem anI_n (v : Int) (k : Nat) (hk : k ≤ 31) : ((iI v &&& iI (((2 ^ k - 1 : Nat)) : Int)).toBitVec).toNat = (v % 4294967296).toNat % 2 ^ k := by
  have hp : 2 ^ k ≤ 2 ^ 31 := Nat.pow_le_pow_right (by omega) hk
  have h0 : 0 < 2 ^ k := Nat.two_pow_pos k
  rw [Int32.toBitVec_and, BitVec.toNat_and]
  have e1 : (iI v).toBitVec.toNat = (v % 4294967296).toNat := BitVec.toNat_ofInt (n := 32) v
  have e2 : (iI (((2 ^ k - 1 : Nat)) : Int)).toBitVec.toNat = 2 ^ k - 1 := by
    have e3 : (iI (((2 ^ k - 1 : Nat)) : Int)).toBitVec.toNat = (((2 ^ k - 1 : Nat) : Int) % 4294967296).toNat := BitVec.toNat_ofInt (n := 32) _
    rw [e3]
    omega
  rw [e1, e2, Nat.and_two_pow_sub_one_eq_mod]
theorem anI_i {x : Int32} {n : Nat} (h : x.toBitVec.toNat = n) (hn : n < 2147483648) : x.toInt = (n : Int) := by
  show x.toBitVec.toInt = (n : Int)
  rw [BitVec.toInt_eq_toNat_cond, h, if_pos (by omega)]
theorem anI_1 (v : Int) : anI v 1 = v % 2 := by
  have h := anI_n v 1 (by omega)
  have h2 := anI_i h (by omega)
  show (iI v &&& iI 1).toInt = v % 2
  rw [show iI 1 = iI (((2 ^ 1 - 1 : Nat)) : Int) from rfl, h2]
  omega
theorem anI_3 (v : Int) : anI v 3 = v % 4 := by
  have h := anI_n v 2 (by omega)
  have h2 := anI_i h (by omega)
  show (iI v &&& iI 3).toInt = v % 4
  rw [show iI 3 = iI (((2 ^ 2 - 1 : Nat)) : Int) from rfl, h2]
  omega
theorem anI_255 (v : Int) : anI v 255 = v % 256 := by
  have h := anI_n v 8 (by omega)
  have h2 := anI_i h (by omega)
  show (iI v &&& iI 255).toInt = v % 256
  rw [show iI 255 = iI (((2 ^ 8 - 1 : Nat)) : Int) from rfl, h2]
  omega
theorem anI_p (v : Int) : 0 ≤ anI v 2147483647 ∧ anI v 2147483647 < 2147483648 := by
  have h := anI_n v 31 (by omega)
  have h2 := anI_i h (by omega)
  have h3 : anI v 2147483647 = (((v % 4294967296).toNat % 2 ^ 31 : Nat) : Int) := h2
  rw [h3]
  omega
theorem sh_c : ∀ n : Fin 32, ((iI (n.val : Int) &&& 31).toBitVec.smod 32).toNat = n.val := by decide +kernel
theorem shR_v {a : Int} (ha : 0 ≤ a ∧ a < 2147483648) (n : Fin 32) : shR a (n.val : Int) = a / ((2 ^ n.val : Nat) : Int) := by
  show ((iI a) >>> ((iI (n.val : Int)) &&& 31)).toBitVec.toInt = _
  rw [Int32.toBitVec_shiftRight]
  show ((iI a).toBitVec.sshiftRight ((iI (n.val : Int) &&& 31).toBitVec.smod 32).toNat).toInt = _
  rw [sh_c n, BitVec.toInt_sshiftRight]
  have e : (iI a).toBitVec.toInt = a := iI_ti (by omega)
  rw [e, Int.shiftRight_eq_div_pow]
theorem shL_1 : ∀ n : Fin 31, shL 1 (n.val : Int) = ((2 ^ n.val : Nat) : Int) := by decide +kernel
section QB27
variable {p : Program} {l : Launch} {e : Env} {R : Room} {s : State} {m : MethodId} {args : Array Value} {below : List Frame} {meth : Method} {c : Code} {H : Heap} {locs : List Loc} {cells slots : Nat} {Q : State → Prop} {cc : ByteArray} {nL pc : Nat} {ls : Array Slot} {rest : List Value} {Ts : List Cond} {own : String} {D : va_G} {tys : List (ClassId × FieldType)} {x y : Int}
theorem q_and (M : qM p m c cc nL s args Ts own D tys) (hdg : decode cc pc = .ok (.iand, 1)) (kk : W p l e R s m args below meth c H locs cells slots Q (F0 m (pc + 1) ls (.int (iI (anI x y)) :: rest))) : W p l e R s m args below meth c H locs cells slots Q (F0 m pc ls (.int (iI y) :: .int (iI x) :: rest)) := by
  refine lv_iand M.1.1 M.1.2.1 hdg ?_
  have e9 : iI (anI x y) = iI x &&& iI y := iI_re _
  rw [← e9]
  exact kk
theorem q_or (M : qM p m c cc nL s args Ts own D tys) (hdg : decode cc pc = .ok (.ior, 1)) (kk : W p l e R s m args below meth c H locs cells slots Q (F0 m (pc + 1) ls (.int (iI (orI x y)) :: rest))) : W p l e R s m args below meth c H locs cells slots Q (F0 m pc ls (.int (iI y) :: .int (iI x) :: rest)) := by
  refine lv_ior M.1.1 M.1.2.1 hdg ?_
  have e9 : iI (orI x y) = iI x ||| iI y := iI_re _
  rw [← e9]
  exact kk
theorem q_xor (M : qM p m c cc nL s args Ts own D tys) (hdg : decode cc pc = .ok (.ixor, 1)) (kk : W p l e R s m args below meth c H locs cells slots Q (F0 m (pc + 1) ls (.int (iI (xoI x y)) :: rest))) : W p l e R s m args below meth c H locs cells slots Q (F0 m pc ls (.int (iI y) :: .int (iI x) :: rest)) := by
  refine lv_ixor M.1.1 M.1.2.1 hdg ?_
  have e9 : iI (xoI x y) = iI x ^^^ iI y := iI_re _
  rw [← e9]
  exact kk
theorem q_shl (M : qM p m c cc nL s args Ts own D tys) (hdg : decode cc pc = .ok (.ishl, 1)) (kk : W p l e R s m args below meth c H locs cells slots Q (F0 m (pc + 1) ls (.int (iI (shL x y)) :: rest))) : W p l e R s m args below meth c H locs cells slots Q (F0 m pc ls (.int (iI y) :: .int (iI x) :: rest)) := by
  refine lv_ishl M.1.1 M.1.2.1 hdg ?_
  have e9 : iI (shL x y) = iI x <<< (iI y &&& 31) := iI_re _
  rw [← e9]
  exact kk
theorem q_shr (M : qM p m c cc nL s args Ts own D tys) (hdg : decode cc pc = .ok (.ishr, 1)) (kk : W p l e R s m args below meth c H locs cells slots Q (F0 m (pc + 1) ls (.int (iI (shR x y)) :: rest))) : W p l e R s m args below meth c H locs cells slots Q (F0 m pc ls (.int (iI y) :: .int (iI x) :: rest)) := by
  refine lv_ishr M.1.1 M.1.2.1 hdg ?_
  have e9 : iI (shR x y) = iI x >>> (iI y &&& 31) := iI_re _
  rw [← e9]
  exact kk
theorem q_icmp_neE (M : qM p m c cc nL s args Ts own D tys) {off : Int} (h : x = y) (hdg : decode cc pc = .ok (.if_icmp .ne off, 3)) {tgt : Nat} (ht : (pc : Int) + off = (tgt : Int)) (kf : W p l e R s m args below meth c H locs cells slots Q (F0 m (pc + 3) ls rest)) : W p l e R s m args below meth c H locs cells slots Q (F0 m pc ls (.int (iI y) :: .int (iI x) :: rest)) :=
  lv_icmp_ne M.1.1 M.1.2.1 hdg ht (fun q => absurd (by rw [h]) q) (fun _ => kf)
theorem q_icmp_eqE (M : qM p m c cc nL s args Ts own D tys) {off : Int} {tgt : Nat} (h : x = y) (hdg : decode cc pc = .ok (.if_icmp .eq off, 3)) (ht : (pc : Int) + off = (tgt : Int)) (kt : W p l e R s m args below meth c H locs cells slots Q (F0 m tgt ls rest)) : W p l e R s m args below meth c H locs cells slots Q (F0 m pc ls (.int (iI y) :: .int (iI x) :: rest)) :=
  lv_icmp_eq M.1.1 M.1.2.1 hdg ht (fun _ => kt) (fun q => absurd (by rw [h]) q)
end QB27
/-- a method whose answer and whose world are told by P; it makes no cell -/
def Ke {X : Type} (l : Launch) (D : va_G) (tys : List (ClassId × FieldType)) (y : MethodName) (wds : List Cond) (rm : Room) (av : List Value) (ws : va_W) (P : Int → X → Prop) (F : X → va_W) : Prop :=
  ∀ sz : Nat, Met l y wds rm (va_Pc av (qB D tys ws sz)) (va_Qi (fun (r : Int32) (x : Int × X) => r = iI x.1 ∧ P x.1 x.2) (fun x t => va_P D vwCl (F x.2) t.heap) (va_A ws sz)) 0 0 (va_A ws sz)
def Kv {X : Type} (l : Launch) (D : va_G) (tys : List (ClassId × FieldType)) (y : MethodName) (wds : List Cond) (rm : Room) (av : List Value) (ws : va_W) (P : X → Prop) (F : X → va_W) : Prop :=
  ∀ sz : Nat, Met l y wds rm (va_Pc av (qB D tys ws sz)) (va_Qv (fun (x : X) => P x) (fun x t => va_P D vwCl (F x) t.heap) (va_A ws sz)) 0 0 (va_A ws sz)
/-- .. that may make cells -/
def Le {X : Type} (l : Launch) (D : va_G) (tys : List (ClassId × FieldType)) (y : MethodName) (wds : List Cond) (rm : Room) (av : List Value) (ws : va_W) (P : Int → X → Prop) (F : X → va_W) : Prop :=
  ∀ sz : Nat, Met l y wds rm (va_Pc av (qXB D tys ws sz)) (va_Qi (fun (r : Int32) (x : Int × X) => r = iI x.1 ∧ P x.1 x.2) (fun x t => va_P D vwCl (F x.2) t.heap) (va_A ws sz)) rm.cells rm.slots (va_A ws sz)
def Lc (l : Launch) (D : va_G) (tys : List (ClassId × FieldType)) (y : MethodName) (wds : List Cond) (rm : Room) (av : List Value) (ws : va_W) (k : Int) (ws2 : va_W) : Prop :=
  ∀ sz : Nat, Met l y wds rm (va_Pc av (qXB D tys ws sz)) (va_Qi (fun (r : Int32) (_ : Unit) => r = iI k) (fun _ t => va_P D vwCl ws2 t.heap) (va_A ws sz)) rm.cells rm.slots (va_A ws sz)
theorem ke_of {X : Type} {l : Launch} {D : va_G} {tys : List (ClassId × FieldType)} {y : MethodName} {wds wds' : List Cond} {rm : Room} {av : List Value} {ws : va_W} {P : Int → X → Prop} {F : X → va_W} {cc : ByteArray} {maxL : Nat} (hy : plainName y.cls = true) (hw : wds = Cond.code y cc maxL (some .int) :: wds') (hlen : (lg_sl av).length ≤ maxL)
    (body : ∀ (p : Program) (e : Env) (s : State) (m : MethodId) (args : Array Value) (below : List Frame) (meth : Method) (c : Code) (A : Nat → Prop) (Q : State → Prop) (ls : Array Slot), qM p m c cc maxL s args wds y.cls D tys → (∀ q : Nat, s.heap.size ≤ q → A q) → wW D A s.heap ws s.heap [] → lv_has ls maxL (lv_args 0 av) →
      (∀ (pc : Nat) (ls1 : Array Slot) (H1 : Heap) (locs1 : List Loc) (z1 : Int) (x1 : X), decode cc pc = .ok (.ireturn, 1) → wW D A s.heap (F x1) H1 locs1 → P z1 x1 → W p l e rm s m args below meth c H1 locs1 0 0 Q (F0 m pc ls1 [.int (iI z1)])) →
      W p l e rm s m args below meth c s.heap [] 0 0 Q (F0 m 0 ls [])) : Ke l D tys y wds rm av ws P F := by
  intro sz
  refine Met.ofW (cc := cc) (maxL := maxL) (ret := some .int) hy hw ?_
  intro p e s m args below meth c s₁ B hml hv
  obtain ⟨rfl, hsz, hP, hK, hD0⟩ := hv
  have hlocks := B.notSynchronized
  subst hsz
  rw [lg_entry_eq]
  have hl := lv_entry av (n := maxL) hlen
  exact body p e s m _ below meth c (va_A ws s.heap.size) _ _ ⟨⟨B.exec, B.bytes, hml, findClass_of_methodNamed B.named, atoms_spec (ws := wds) B.pre⟩, hK⟩ (fun q h => Or.inr h) ⟨hP, hD0.self, va_S.rf⟩ hl
    (fun pc ls1 H1 locs1 z1 x1 hdg w1 hz => W.iret B.exec B.bytes B.returns (fun t ht _ => ⟨⟨_, (z1, x1), rfl, ⟨rfl, hz⟩, by show va_P D vwCl (F x1) t.heap; rw [ht]; exact w1.1⟩, w1.2.2.F ht⟩) w1.2.2.2.2 hdg)
theorem kv_of {X : Type} {l : Launch} {D : va_G} {tys : List (ClassId × FieldType)} {y : MethodName} {wds wds' : List Cond} {rm : Room} {av : List Value} {ws : va_W} {P : X → Prop} {F : X → va_W} {cc : ByteArray} {maxL : Nat} (hy : plainName y.cls = true) (hw : wds = Cond.code y cc maxL none :: wds') (hlen : (lg_sl av).length ≤ maxL)
    (body : ∀ (p : Program) (e : Env) (s : State) (m : MethodId) (args : Array Value) (below : List Frame) (meth : Method) (c : Code) (A : Nat → Prop) (Q : State → Prop) (ls : Array Slot), qM p m c cc maxL s args wds y.cls D tys → (∀ q : Nat, s.heap.size ≤ q → A q) → wW D A s.heap ws s.heap [] → lv_has ls maxL (lv_args 0 av) →
      (∀ (pc : Nat) (ls1 : Array Slot) (H1 : Heap) (locs1 : List Loc) (x1 : X), decode cc pc = .ok (.return_, 1) → wW D A s.heap (F x1) H1 locs1 → P x1 → W p l e rm s m args below meth c H1 locs1 0 0 Q (F0 m pc ls1 [])) →
      W p l e rm s m args below meth c s.heap [] 0 0 Q (F0 m 0 ls [])) : Kv l D tys y wds rm av ws P F := by
  intro sz
  refine Met.ofW (cc := cc) (maxL := maxL) (ret := none) hy hw ?_
  intro p e s m args below meth c s₁ B hml hv
  obtain ⟨rfl, hsz, hP, hK, hD0⟩ := hv
  have hlocks := B.notSynchronized
  subst hsz
  rw [lg_entry_eq]
  have hl := lv_entry av (n := maxL) hlen
  exact body p e s m _ below meth c (va_A ws s.heap.size) _ _ ⟨⟨B.exec, B.bytes, hml, findClass_of_methodNamed B.named, atoms_spec (ws := wds) B.pre⟩, hK⟩ (fun q h => Or.inr h) ⟨hP, hD0.self, va_S.rf⟩ hl
    (fun pc ls1 H1 locs1 x1 hdg w1 hz => W.vret B.exec B.bytes B.returns (fun t ht _ => ⟨⟨x1, rfl, hz, by show va_P D vwCl (F x1) t.heap; rw [ht]; exact w1.1⟩, w1.2.2.F ht⟩) w1.2.2.2.2 hdg)
theorem le_of {X : Type} {l : Launch} {D : va_G} {tys : List (ClassId × FieldType)} {y : MethodName} {wds wds' : List Cond} {rm : Room} {av : List Value} {ws : va_W} {P : Int → X → Prop} {F : X → va_W} {cc : ByteArray} {maxL : Nat} (hy : plainName y.cls = true) (hw : wds = Cond.code y cc maxL (some .boolean) :: wds') (hlen : (lg_sl av).length ≤ maxL) (hty : ∀ z x, P z x → z = 0 ∨ z = 1)
    (body : ∀ (p : Program) (e : Env) (s : State) (m : MethodId) (args : Array Value) (below : List Frame) (meth : Method) (c : Code) (A : Nat → Prop) (Q : State → Prop) (ls : Array Slot), qM p m c cc maxL s args wds y.cls D tys → (∀ q : Nat, s.heap.size ≤ q → A q) → wW D A s.heap ws s.heap [] → lv_has ls maxL (lv_args 0 av) → qT A s s.heap →
      (∀ (pc : Nat) (ls1 : Array Slot) (H1 : Heap) (locs1 : List Loc) (z1 : Int) (x1 : X) (k9 n9 : Nat), k9 ≤ rm.cells → n9 ≤ rm.slots → decode cc pc = .ok (.ireturn, 1) → wW D A s.heap (F x1) H1 locs1 → P z1 x1 → W p l e rm s m args below meth c H1 locs1 k9 n9 Q (F0 m pc ls1 [.int (iI z1)])) →
      W p l e rm s m args below meth c s.heap [] 0 0 Q (F0 m 0 ls [])) : Le l D tys y wds rm av ws P F := by
  intro sz
  refine Met.ofW (cc := cc) (maxL := maxL) (ret := some .boolean) hy hw ?_
  intro p e s m args below meth c s₁ B hml hv
  obtain ⟨rfl, ⟨hsz, hP, hK, hD0⟩, hT⟩ := hv
  have hlocks := B.notSynchronized
  subst hsz
  rw [lg_entry_eq]
  have hl := lv_entry av (n := maxL) hlen
  refine body p e s m _ below meth c (va_A ws s.heap.size) _ _ ⟨⟨B.exec, B.bytes, hml, findClass_of_methodNamed B.named, atoms_spec (ws := wds) B.pre⟩, hK⟩ (fun q h => Or.inr h) ⟨hP, hD0.self, va_S.rf⟩ hl hT ?_
  intro pc ls1 H1 locs1 z1 x1 k9 n9 hk hn hdg w1 hz
  exact W.widen (k := rm.cells) (n := rm.slots) hk hn (W.zret B.exec B.bytes B.returns (q_nz2 (hty z1 x1 hz)) (fun t ht _ => ⟨⟨_, (z1, x1), rfl, ⟨rfl, hz⟩, by show va_P D vwCl (F x1) t.heap; rw [ht]; exact w1.1⟩, w1.2.2.F ht⟩) w1.2.2.2.2 hdg)
section QC27
variable {p : Program} {l : Launch} {e : Env} {R : Room} {s : State} {m : MethodId} {args : Array Value} {below : List Frame} {meth : Method} {c : Code} {H : Heap} {locs : List Loc} {cells slots : Nat} {Q : State → Prop} {cc bytes : ByteArray} {nL maxL index pc : Nat} {ls : Array Slot} {rest As st0 : List Value} {Ts wds wds' : List Cond} {own C : String} {D : va_G} {tys : List (ClassId × FieldType)} {A : Nat → Prop} {H0 : Heap} {ws wc wc2 ws2 : va_W} {b : Nat} {y : MethodName} {rm : Room} {z k : Int} {ret : Option FieldType} {lv : List (Nat × Value)} {hh : List (Nat × Nat × Nat × Nat)} {X : Type} {PP : Int → X → Prop} {PV : X → Prop} {F G : X → va_W}
theorem qe_iS (M : qM p m c cc nL s args Ts own D tys) (w : wW D A H0 ws H locs) (hA : ∀ q : Nat, H0.size ≤ q → A q) (hl : lv_has ls nL lv) (hC : Ke l D tys y wds rm As wc PP F) (hg : GoodIn Ts (va_wsS own index y wds)) (hw : wds = Cond.code y bytes maxL ret :: wds')
    (hrm : rm.cells = 0 ∧ rm.slots = 0 ∧ rm.frames + 1 ≤ R.frames ∧ 8 + (maxL + 11) + rm.locals ≤ R.locals) (hcs : cells ≤ R.cells ∧ slots ≤ R.slots) (n : Nat) (hd : y.cls ≠ "java/lang/invoke/MethodHandle" ∧ y.cls ≠ "java/lang/invoke/VarHandle" ∧ (parseMethodDescriptor y.desc).map (fun d => d.parameters.length) = some n) (hn : As.length = n)
    (bs : List Bool) (hwc : qSel bs ws = wc) (hfst : ∀ x, (F x).map Prod.fst = wc.map Prod.fst)
    (hst : st0 = As.reverse ++ rest) (hrest : (rest.map fun v => v.category).sum ≤ 8) (h2 : ∀ x, qMg bs (F x) ws = G x) (hdg : decode cc pc = .ok (.invokestatic index, 3))
    (kk : ∀ (z : Int) (x : X), PP z x → ∀ (H1 : Heap) (locs1 : List Loc), wW D A H0 (G x) H1 locs1 → W p l e R s m args below meth c H1 locs1 cells slots Q (F0 m (pc + 3) ls (.int (iI z) :: rest))) : W p l e R s m args below meth c H locs cells slots Q (F0 m pc ls st0) := by
  subst hwc
  have hP : va_P D vwCl (qSel bs ws) H ∧ va_D (fun _ => True) (qSel bs ws) := ⟨qSel_P w.1 bs, (qSel_D w.2.1 bs).weaken (fun _ _ _ _ => trivial)⟩
  have hF := qSel_free w.2.1 w.2.2 hA bs
  refine va_calli (va_runS (As := As) (rest := rest) M.1 (hC H.size) (va_cwS n M.1.2.2.2.2 hg hw hrm.1 hrm.2.1 hd hrm.2.2) ⟨qB_blind, fun U hU hW => ⟨rfl, by rw [hU], by rw [hU]; exact hP.1, va_K.moved hW.alike M.2, hP.2⟩⟩ rfl hn hl.1 hst (lv_room hrest) hdg hcs) w.2.2 (fun q _ h => hF q h) hF (fun r u t H1 locs1 ht hvm hr hB hz1 hk1 hS => ?_)
  obtain ⟨hr1, hr2⟩ := hr
  subst hr1
  rw [ht] at hB
  obtain ⟨g1, g2⟩ := qMg_W w.1 w.2.1 bs (hfst u.2) hk1 hB
  exact kk u.1 u.2 hr2 H1 locs1 (h2 u.2 ▸ ⟨g1, g2, hS⟩)
theorem qe_vS (M : qM p m c cc nL s args Ts own D tys) (w : wW D A H0 ws H locs) (hA : ∀ q : Nat, H0.size ≤ q → A q) (hl : lv_has ls nL lv) (hC : Kv l D tys y wds rm As wc PV F) (hg : GoodIn Ts (va_wsS own index y wds)) (hw : wds = Cond.code y bytes maxL ret :: wds')
    (hrm : rm.cells = 0 ∧ rm.slots = 0 ∧ rm.frames + 1 ≤ R.frames ∧ 8 + (maxL + 11) + rm.locals ≤ R.locals) (hcs : cells ≤ R.cells ∧ slots ≤ R.slots) (n : Nat) (hd : y.cls ≠ "java/lang/invoke/MethodHandle" ∧ y.cls ≠ "java/lang/invoke/VarHandle" ∧ (parseMethodDescriptor y.desc).map (fun d => d.parameters.length) = some n) (hn : As.length = n)
    (bs : List Bool) (hwc : qSel bs ws = wc) (hfst : ∀ x, (F x).map Prod.fst = wc.map Prod.fst)
    (hst : st0 = As.reverse ++ rest) (hrest : (rest.map fun v => v.category).sum ≤ 8) (h2 : ∀ x, qMg bs (F x) ws = G x) (hdg : decode cc pc = .ok (.invokestatic index, 3))
    (kk : ∀ (x : X), PV x → ∀ (H1 : Heap) (locs1 : List Loc), wW D A H0 (G x) H1 locs1 → W p l e R s m args below meth c H1 locs1 cells slots Q (F0 m (pc + 3) ls rest)) : W p l e R s m args below meth c H locs cells slots Q (F0 m pc ls st0) := by
  subst hwc
  have hP : va_P D vwCl (qSel bs ws) H ∧ va_D (fun _ => True) (qSel bs ws) := ⟨qSel_P w.1 bs, (qSel_D w.2.1 bs).weaken (fun _ _ _ _ => trivial)⟩
  have hF := qSel_free w.2.1 w.2.2 hA bs
  refine va_callv (va_runS (As := As) (rest := rest) M.1 (hC H.size) (va_cwS n M.1.2.2.2.2 hg hw hrm.1 hrm.2.1 hd hrm.2.2) ⟨qB_blind, fun U hU hW => ⟨rfl, by rw [hU], by rw [hU]; exact hP.1, va_K.moved hW.alike M.2, hP.2⟩⟩ rfl hn hl.1 hst (lv_room hrest) hdg hcs) w.2.2 (fun q _ h => hF q h) hF (fun u t H1 locs1 ht hvm hr hB hz1 hk1 hS => ?_)
  rw [ht] at hB
  obtain ⟨g1, g2⟩ := qMg_W w.1 w.2.1 bs (hfst u) hk1 hB
  exact kk u hr H1 locs1 (h2 u ▸ ⟨g1, g2, hS⟩)
theorem qe_L (M : qM p m c cc nL s args Ts own D tys) (w : wW D A s.heap ws H locs) (hA : ∀ q : Nat, s.heap.size ≤ q → A q) (hT : qT A s s.heap) (hl : lv_has ls nL lv) (hC : Le l D tys y wds rm As wc PP F) (hg : GoodIn Ts (va_wsS own index y wds)) (hw : wds = Cond.code y bytes maxL ret :: wds')
    (hrm : rm.frames + 1 ≤ R.frames ∧ 8 + (maxL + 11) + rm.locals ≤ R.locals) (hcs : cells + rm.cells ≤ R.cells ∧ slots + rm.slots ≤ R.slots) (n : Nat) (hd : y.cls ≠ "java/lang/invoke/MethodHandle" ∧ y.cls ≠ "java/lang/invoke/VarHandle" ∧ (parseMethodDescriptor y.desc).map (fun d => d.parameters.length) = some n) (hn : As.length = n)
    (bs : List Bool) (hwc : qSel bs ws = wc) (hfst : ∀ x, (F x).map Prod.fst = wc.map Prod.fst)
    (hst : st0 = As.reverse ++ rest) (hrest : (rest.map fun v => v.category).sum ≤ 8) (h2 : ∀ x, qMg bs (F x) ws = G x) (hdg : decode cc pc = .ok (.invokestatic index, 3))
    (kk : ∀ (z : Int) (x : X), PP z x → ∀ (H1 : Heap) (locs1 : List Loc), wW D A s.heap (G x) H1 locs1 → W p l e R s m args below meth c H1 locs1 (cells + rm.cells) (slots + rm.slots) Q (F0 m (pc + 3) ls (.int (iI z) :: rest))) : W p l e R s m args below meth c H locs cells slots Q (F0 m pc ls st0) := by
  subst hwc
  have hP : va_P D vwCl (qSel bs ws) H ∧ va_D (fun _ => True) (qSel bs ws) := ⟨qSel_P w.1 bs, (qSel_D w.2.1 bs).weaken (fun _ _ _ _ => trivial)⟩
  have hF := qSel_free w.2.1 w.2.2 hA bs
  refine va_calli (va_runS (As := As) (rest := rest) M.1 (hC H.size) (va_cwS n M.1.2.2.2.2 hg hw rfl rfl hd hrm) ⟨qXB_blind, fun U hU hW => ⟨rfl, ⟨by rw [hU], by rw [hU]; exact hP.1, va_K.moved hW.alike M.2, hP.2⟩, qT_in hT w.2.2 hF hW hU⟩⟩ rfl hn hl.1 hst (lv_room hrest) hdg hcs) w.2.2 (fun q _ h => hF q h) hF (fun r u t H1 locs1 ht hvm hr hB hz1 hk1 hS => ?_)
  obtain ⟨hr1, hr2⟩ := hr
  subst hr1
  rw [ht] at hB
  obtain ⟨g1, g2⟩ := qMg_W w.1 w.2.1 bs (hfst u.2) hk1 hB
  exact kk u.1 u.2 hr2 H1 locs1 (h2 u.2 ▸ ⟨g1, g2, hS⟩)
theorem qc_L (M : qM p m c cc nL s args Ts own D tys) (w : wW D A s.heap ws H locs) (hA : ∀ q : Nat, s.heap.size ≤ q → A q) (hT : qT A s s.heap) (hl : lv_has ls nL lv) (hC : Lc l D tys y wds rm As wc k wc2) (hg : GoodIn Ts (va_wsS own index y wds)) (hw : wds = Cond.codeWith y bytes maxL ret hh :: wds')
    (hrm : rm.frames + 1 ≤ R.frames ∧ 8 + (maxL + 11) + rm.locals ≤ R.locals) (hcs : cells + rm.cells ≤ R.cells ∧ slots + rm.slots ≤ R.slots) (n : Nat) (hd : y.cls ≠ "java/lang/invoke/MethodHandle" ∧ y.cls ≠ "java/lang/invoke/VarHandle" ∧ (parseMethodDescriptor y.desc).map (fun d => d.parameters.length) = some n) (hn : As.length = n)
    (bs : List Bool) (hwc : qSel bs ws = wc) (hfst : wc2.map Prod.fst = wc.map Prod.fst)
    (hst : st0 = As.reverse ++ rest) (hrest : (rest.map fun v => v.category).sum ≤ 8) (h2 : qMg bs wc2 ws = ws2) (hdg : decode cc pc = .ok (.invokestatic index, 3))
    (kk : ∀ (H1 : Heap) (locs1 : List Loc), wW D A s.heap ws2 H1 locs1 → W p l e R s m args below meth c H1 locs1 (cells + rm.cells) (slots + rm.slots) Q (F0 m (pc + 3) ls (.int (iI k) :: rest))) : W p l e R s m args below meth c H locs cells slots Q (F0 m pc ls st0) := by
  subst hwc
  have hP : va_P D vwCl (qSel bs ws) H ∧ va_D (fun _ => True) (qSel bs ws) := ⟨qSel_P w.1 bs, (qSel_D w.2.1 bs).weaken (fun _ _ _ _ => trivial)⟩
  have hF := qSel_free w.2.1 w.2.2 hA bs
  refine va_calli (vx_runSW (As := As) (rest := rest) M.1 (hC H.size) (vx_cwSW n M.1.2.2.2.2 hg hw rfl rfl hd hrm) ⟨qXB_blind, fun U hU hW => ⟨rfl, ⟨by rw [hU], by rw [hU]; exact hP.1, va_K.moved hW.alike M.2, hP.2⟩, qT_in hT w.2.2 hF hW hU⟩⟩ rfl hn hl.1 hst (lv_room hrest) hdg hcs) w.2.2 (fun q _ h => hF q h) hF (fun r u t H1 locs1 ht hvm hr hB hz1 hk1 hS => ?_)
  subst hr
  rw [ht] at hB
  obtain ⟨g1, g2⟩ := qMg_W w.1 w.2.1 bs hfst hk1 hB
  exact kk H1 locs1 (h2 ▸ ⟨g1, g2, hS⟩)
end QC27

/-! THE LAW'S WORLDS: its rows κ 0 .. κ 11 (a b c f p t e n q m r v) at the places o -/
def WLhas (cI : ClassId) (o : Nat → Nat) (κ : Nat → Int → Int) : va_W := [(o 0, .inl (cI, 64, .inl (iF (κ 0)))), (o 1, .inl (cI, 64, .inl (iF (κ 1)))), (o 2, .inl (cI, 64, .inl (iF (κ 2)))), (o 3, .inl (cI, 48, .inl (iF (κ 3))))]
def WLbeg (cI : ClassId) (o : Nat → Nat) (κ : Nat → Int → Int) : va_W := [(o 4, .inl (cI, 6, .inl (iF (κ 4))))]
def WLuse (cI : ClassId) (o : Nat → Nat) (κ : Nat → Int → Int) : va_W := [(o 0, .inl (cI, 64, .inl (iF (κ 0)))), (o 1, .inl (cI, 64, .inl (iF (κ 1)))), (o 2, .inl (cI, 64, .inl (iF (κ 2)))), (o 3, .inl (cI, 48, .inl (iF (κ 3)))), (o 4, .inl (cI, 6, .inl (iF (κ 4)))), (o 8, .inl (cI, 10, .inl (iF (κ 8)))), (o 9, .inl (cI, 16, .inl (iF (κ 9)))), (o 10, .inl (cI, 64, .inl (iF (κ 10))))]
def WLlod (cI : ClassId) (o : Nat → Nat) (κ : Nat → Int → Int) : va_W := [(o 5, .inl (cI, 40, .inl (iF (κ 5)))), (o 8, .inl (cI, 10, .inl (iF (κ 8)))), (o 9, .inl (cI, 16, .inl (iF (κ 9))))]
def WLtic (cI : ClassId) (o : Nat → Nat) (κ : Nat → Int → Int) : va_W := [(o 0, .inl (cI, 64, .inl (iF (κ 0)))), (o 1, .inl (cI, 64, .inl (iF (κ 1)))), (o 2, .inl (cI, 64, .inl (iF (κ 2)))), (o 3, .inl (cI, 48, .inl (iF (κ 3)))), (o 4, .inl (cI, 6, .inl (iF (κ 4)))), (o 5, .inl (cI, 40, .inl (iF (κ 5)))), (o 8, .inl (cI, 10, .inl (iF (κ 8)))), (o 9, .inl (cI, 16, .inl (iF (κ 9)))), (o 10, .inl (cI, 64, .inl (iF (κ 10))))]
def WLlay (cI : ClassId) (o : Nat → Nat) (t : Nat) (κ : Nat → Int → Int) (f : Int → Int) : va_W := [(o 4, .inl (cI, 6, .inl (iF (κ 4)))), (o 6, .inl (cI, 48, .inl (iF (κ 6)))), (o 7, .inl (cI, 6, .inl (iF (κ 7)))), (t, .inl (cI, 64, .inl (iF f)))]
def WLsng (cI : ClassId) (o : Nat → Nat) (κ : Nat → Int → Int) : va_W := [(o 0, .inl (cI, 64, .inl (iF (κ 0)))), (o 1, .inl (cI, 64, .inl (iF (κ 1)))), (o 2, .inl (cI, 64, .inl (iF (κ 2)))), (o 3, .inl (cI, 48, .inl (iF (κ 3)))), (o 4, .inl (cI, 6, .inl (iF (κ 4)))), (o 6, .inl (cI, 48, .inl (iF (κ 6)))), (o 7, .inl (cI, 6, .inl (iF (κ 7)))), (o 11, .inl (cI, 64, .inl (iF (κ 11))))]
def WLstp (cI : ClassId) (o : Nat → Nat) (κ : Nat → Int → Int) : va_W := [(o 0, .inl (cI, 64, .inl (iF (κ 0)))), (o 1, .inl (cI, 64, .inl (iF (κ 1)))), (o 2, .inl (cI, 64, .inl (iF (κ 2)))), (o 3, .inl (cI, 48, .inl (iF (κ 3)))), (o 8, .inl (cI, 10, .inl (iF (κ 8))))]
def WLset (cI : ClassId) (o : Nat → Nat) (κ : Nat → Int → Int) : va_W := [(o 4, .inl (cI, 6, .inl (iF (κ 4)))), (o 5, .inl (cI, 40, .inl (iF (κ 5)))), (o 8, .inl (cI, 10, .inl (iF (κ 8))))]
def WLsgs (cI : ClassId) (o : Nat → Nat) (κ : Nat → Int → Int) : va_W := [(o 4, .inl (cI, 6, .inl (iF (κ 4)))), (o 6, .inl (cI, 48, .inl (iF (κ 6)))), (o 7, .inl (cI, 6, .inl (iF (κ 7)))), (o 8, .inl (cI, 10, .inl (iF (κ 8)))), (o 11, .inl (cI, 64, .inl (iF (κ 11))))]
def WLlst (cI : ClassId) (o : Nat → Nat) (κ : Nat → Int → Int) : va_W := [(o 4, .inl (cI, 6, .inl (iF (κ 4)))), (o 6, .inl (cI, 48, .inl (iF (κ 6)))), (o 7, .inl (cI, 6, .inl (iF (κ 7)))), (o 8, .inl (cI, 10, .inl (iF (κ 8)))), (o 9, .inl (cI, 16, .inl (iF (κ 9)))), (o 10, .inl (cI, 64, .inl (iF (κ 10))))]
def WLall (cI : ClassId) (o : Nat → Nat) (κ : Nat → Int → Int) : va_W := [(o 0, .inl (cI, 64, .inl (iF (κ 0)))), (o 1, .inl (cI, 64, .inl (iF (κ 1)))), (o 2, .inl (cI, 64, .inl (iF (κ 2)))), (o 3, .inl (cI, 48, .inl (iF (κ 3)))), (o 4, .inl (cI, 6, .inl (iF (κ 4)))), (o 5, .inl (cI, 40, .inl (iF (κ 5)))), (o 6, .inl (cI, 48, .inl (iF (κ 6)))), (o 7, .inl (cI, 6, .inl (iF (κ 7)))), (o 8, .inl (cI, 10, .inl (iF (κ 8)))), (o 9, .inl (cI, 16, .inl (iF (κ 9)))), (o 10, .inl (cI, 64, .inl (iF (κ 10)))), (o 11, .inl (cI, 64, .inl (iF (κ 11))))]
abbrev rmL_cell : Room := { frames := 0, cells := 0, slots := 0, locals := 0 }
abbrev rmL_low : Room := { frames := 0, cells := 0, slots := 0, locals := 0 }
abbrev rmL_calls : Room := { frames := 9, cells := 5, slots := 30, locals := 162 }
abbrev rmL_lays : Room := { frames := 0, cells := 0, slots := 0, locals := 0 }
abbrev rmL_has : Room := { frames := 0, cells := 0, slots := 0, locals := 0 }
abbrev rmL_begins : Room := { frames := 0, cells := 0, slots := 0, locals := 0 }
abbrev rmL_uses : Room := { frames := 1, cells := 0, slots := 0, locals := 28 }
abbrev rmL_loads : Room := { frames := 0, cells := 0, slots := 0, locals := 0 }
abbrev rmL_tick : Room := { frames := 2, cells := 0, slots := 0, locals := 60 }
abbrev rmL_memory : Room := { frames := 9, cells := 20, slots := 120, locals := 154 }
abbrev rmL_song : Room := { frames := 9, cells := 6, slots := 36, locals := 156 }
abbrev rmL_steps : Room := { frames := 10, cells := 5, slots := 30, locals := 188 }
abbrev rmL_sets : Room := { frames := 10, cells := 5, slots := 30, locals := 188 }
abbrev rmL_songs : Room := { frames := 10, cells := 5, slots := 30, locals := 188 }
abbrev rmL_list : Room := { frames := 10, cells := 5, slots := 30, locals := 188 }
abbrev rmL_plays : Room := { frames := 10, cells := 5, slots := 30, locals := 188 }
