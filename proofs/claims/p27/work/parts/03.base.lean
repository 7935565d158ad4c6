/-! BASE: ints as iI z, arrays as iF f; rows over them; worlds that are put back in place -/
def iI (z : Int) : Int32 := Int32.ofInt z
theorem iI_add (a b : Int) : iI a + iI b = iI (a + b) := (Int32.ofInt_add a b).symm
theorem iI_sub (a b : Int) : iI a - iI b = iI (a - b) := (Int32.ofInt_sub a b).symm
theorem iI_mul (a b : Int) : iI a * iI b = iI (a * b) := (Int32.ofInt_mul a b).symm
theorem iI_ti {z : Int} (h : -2147483648 ≤ z ∧ z < 2147483648) : (iI z).toInt = z := Int32.toInt_ofInt_of_le (by omega) (by omega)
theorem iI_re (x : Int32) : iI x.toInt = x := Int32.ofInt_toInt x
theorem iI_lt {a b : Int} (ha : -2147483648 ≤ a ∧ a < 2147483648) (hb : -2147483648 ≤ b ∧ b < 2147483648) : iI a < iI b ↔ a < b := by rw [Int32.lt_iff_toInt_lt, iI_ti ha, iI_ti hb]
theorem iI_le {a b : Int} (ha : -2147483648 ≤ a ∧ a < 2147483648) (hb : -2147483648 ≤ b ∧ b < 2147483648) : iI a ≤ iI b ↔ a ≤ b := by rw [Int32.le_iff_toInt_le, iI_ti ha, iI_ti hb]
theorem iI_eq {a b : Int} (ha : -2147483648 ≤ a ∧ a < 2147483648) (hb : -2147483648 ≤ b ∧ b < 2147483648) : iI a = iI b ↔ a = b := ⟨fun h => by rw [← iI_ti ha, h, iI_ti hb], fun h => by rw [h]⟩
theorem iI_0 : (0 : Int32) = iI 0 := by decide +kernel
theorem iI_div {a b : Int} (ha : 0 ≤ a ∧ a < 2147483648) (hb : 0 < b ∧ b < 2147483648) : iI a / iI b = iI (a / b) := by
  apply Int32.toInt_inj.mp
  have h1 : (iI a).toInt = a := iI_ti (by omega)
  have h2 : (iI b).toInt = b := iI_ti (by omega)
  have hne : iI b ≠ -1 := fun h => by
    rw [h] at h2
    have h3 : (-1 : Int32).toInt = -1 := by decide
    omega
  rw [Int32.toInt_div_of_ne_right _ _ hne, h1, h2]
  have h3 : a.tdiv b = a / b := Int.tdiv_eq_ediv_of_nonneg ha.1
  have h4 : 0 ≤ a / b := Int.ediv_nonneg ha.1 (by omega)
  have h5 : a / b ≤ a := Int.ediv_le_self b ha.1
  rw [h3, iI_ti (by omega)]
theorem iI_rem {a b : Int} (ha : 0 ≤ a ∧ a < 2147483648) (hb : 0 < b ∧ b < 2147483648) : iI a - iI a / iI b * iI b = iI (a % b) := by
  rw [iI_div ha hb, iI_mul, iI_sub, Int.emod_def, Int.mul_comm]
theorem iI_cl {z : Int} (h : 0 ≤ z ∧ z < 2147483648) : (((iI z).toNatClampNeg : Nat) : Int) = z := by
  show (((iI z).toInt.toNat : Nat) : Int) = z
  rw [iI_ti (by omega)]
  omega
theorem iI_in {z : Int} {n : Nat} (h : 0 ≤ z ∧ z < n) (hz : z < 2147483648) : vp_in (iI z) n := by
  rw [vp_in_iff, iI_ti (by omega)]
  exact h
def iF (f : Int → Int) : Nat → Int32 := fun j => iI (f (j : Int))
def iU (f : Int → Int) (i v : Int) : Int → Int := fun j => if j = i then v else f j
theorem iU_s (f : Int → Int) (i v : Int) : iU f i v i = v := if_pos rfl
theorem iU_n (f : Int → Int) {i j : Int} (v : Int) (h : j ≠ i) : iU f i v j = f j := if_neg h
theorem iU_fill {g : Int → Int} {i v : Int} (h : ∀ j : Int, 0 ≤ j → j < i → g j = v) : ∀ j : Int, 0 ≤ j → j < i + 1 → iU g i v j = v := by
  intro j h3 h4
  unfold iU
  by_cases q : j = i
  · rw [if_pos q]
  · rw [if_neg q]; exact h j h3 (by omega)
theorem iF_at (f : Int → Int) {z : Int} (h : 0 ≤ z ∧ z < 2147483648) : iF f (iI z).toNatClampNeg = iI (f z) := by
  unfold iF
  rw [iI_cl h]
theorem iF_up (f : Int → Int) {i v : Int} (h : 0 ≤ i ∧ i < 2147483648) : upd (iF f) (iI i).toNatClampNeg (iI v) = iF (iU f i v) := by
  funext j
  unfold upd iF iU
  have e := iI_cl h
  by_cases q : j = (iI i).toNatClampNeg
  · have q2 : (j : Int) = i := by omega
    rw [if_pos q, if_pos q2]
  · have q2 : ¬ (j : Int) = i := by omega
    rw [if_neg q, if_neg q2]
/-- the heap holds the world ws, apart and in A; nothing else has changed since H0 -/
def wW (D : va_G) (A : Nat → Prop) (H0 : Heap) (ws : va_W) (H : Heap) (locs : List Loc) : Prop := va_P D vwCl ws H ∧ va_D A ws ∧ va_S A H0 H locs
def qM (p : Program) (m : MethodId) (c : Code) (cc : ByteArray) (nL : Nat) (s : State) (args : Array Value) (Ts : List Cond) (own : String) (D : va_G) (tys : List (ClassId × FieldType)) : Prop := CallFix p m c cc nL s args Ts own ∧ va_K D vwCl tys s
def qSel : List Bool → va_W → va_W
  | [], _ => []
  | _ :: _, [] => []
  | true :: bs, x :: ws => x :: qSel bs ws
  | false :: bs, _ :: ws => qSel bs ws
def qMg : List Bool → va_W → va_W → va_W
  | [], _, ws => ws
  | _ :: _, _, [] => []
  | false :: bs, w, x :: ws => x :: qMg bs w ws
  | true :: _, [], x :: ws => x :: ws
  | true :: bs, q :: w, _ :: ws => q :: qMg bs w ws
def qIx : List Bool → Nat → Nat
  | [], j => j
  | true :: _, 0 => 0
  | true :: bs, j + 1 => qIx bs j + 1
  | false :: bs, j => qIx bs j + 1
theorem qIx_inj : ∀ (bs : List Bool) (i j : Nat), qIx bs i = qIx bs j → i = j
  | [], _, _, h => h
  | true :: bs, 0, 0, _ => rfl
  | true :: bs, 0, j + 1, h => by simp [qIx] at h
  | true :: bs, i + 1, 0, h => by simp [qIx] at h
  | true :: bs, i + 1, j + 1, h => by
    have h1 : qIx bs i + 1 = qIx bs j + 1 := h
    rw [qIx_inj bs i j (by omega)]
  | false :: bs, i, j, h => by
    have h1 : qIx bs i + 1 = qIx bs j + 1 := h
    exact qIx_inj bs i j (by omega)
theorem qSel_get : ∀ (bs : List Bool) (ws : va_W) (j : Nat) (q : Nat × va_E), (qSel bs ws)[j]? = some q → ws[qIx bs j]? = some q
  | [], ws, j, q, h => by simp [qSel] at h
  | b :: bs, [], j, q, h => by cases b <;> simp [qSel] at h
  | true :: bs, x :: ws, 0, q, h => h
  | true :: bs, x :: ws, j + 1, q, h => by
    have h1 : (qSel bs ws)[j]? = some q := h
    show (x :: ws)[qIx bs j + 1]? = some q
    rw [List.getElem?_cons_succ]
    exact qSel_get bs ws j q h1
  | false :: bs, x :: ws, j, q, h => by
    have h1 : (qSel bs ws)[j]? = some q := h
    show (x :: ws)[qIx bs j + 1]? = some q
    rw [List.getElem?_cons_succ]
    exact qSel_get bs ws j q h1
theorem qMg_get : ∀ (bs : List Bool) (w ws : va_W) (k : Nat) (q : Nat × va_E), w.length = (qSel bs ws).length → (qMg bs w ws)[k]? = some q → (∃ j : Nat, k = qIx bs j ∧ w[j]? = some q) ∨ ((∀ j : Nat, j < w.length → k ≠ qIx bs j) ∧ ws[k]? = some q)
  | [], w, ws, k, q, hl, h => Or.inr ⟨fun j hj => by
      have : w.length = 0 := hl
      omega, h⟩
  | b :: bs, w, [], k, q, hl, h => by
    have h1 : ([] : va_W)[k]? = some q := by cases b <;> exact h
    cases h1
  | false :: bs, w, x :: ws, 0, q, hl, h => Or.inr ⟨fun j _ e => by
      have h1 : (0 : Nat) = qIx bs j + 1 := e
      omega, h⟩
  | false :: bs, w, x :: ws, k + 1, q, hl, h => by
    have h1 : (qMg bs w ws)[k]? = some q := h
    rcases qMg_get bs w ws k q hl h1 with ⟨j, e1, e2⟩ | ⟨e1, e2⟩
    · exact Or.inl ⟨j, by show k + 1 = qIx bs j + 1; omega, e2⟩
    · exact Or.inr ⟨fun j hj e => e1 j hj (by
        have h2 : k + 1 = qIx bs j + 1 := e
        omega), e2⟩
  | true :: bs, [], x :: ws, k, q, hl, h => by
    have : 0 = (qSel bs ws).length + 1 := hl
    omega
  | true :: bs, q0 :: w, x :: ws, 0, q, hl, h => Or.inl ⟨0, rfl, h⟩
  | true :: bs, q0 :: w, x :: ws, k + 1, q, hl, h => by
    have h1 : (qMg bs w ws)[k]? = some q := h
    have hl1 : w.length + 1 = (qSel bs ws).length + 1 := hl
    rcases qMg_get bs w ws k q (by omega) h1 with ⟨j, e1, e2⟩ | ⟨e1, e2⟩
    · exact Or.inl ⟨j + 1, by show k + 1 = qIx bs j + 1; omega, e2⟩
    · refine Or.inr ⟨fun j hj e => ?_, e2⟩
      match j, hj, e with
      | 0, _, e => cases e
      | j + 1, hj, e =>
        have h2 : k + 1 = qIx bs j + 1 := e
        have h3 : j + 1 < w.length + 1 := hj
        exact e1 j (by omega) (by omega)
theorem qSel_D {A : Nat → Prop} {ws : va_W} (hD : va_D A ws) (bs : List Bool) : va_D A (qSel bs ws) :=
  ⟨fun i j x y hi hj hxy => qIx_inj bs i j (hD.1 _ _ x y (qSel_get bs ws i x hi) (qSel_get bs ws j y hj) hxy), fun k q hk => hD.2 _ q (qSel_get bs ws k q hk)⟩
theorem qSel_P {D : va_G} {cl : List vw_C} {ws : va_W} {H : Heap} (hP : va_P D cl ws H) (bs : List Bool) : va_P D cl (qSel bs ws) H := fun k q hk => hP _ q (qSel_get bs ws k q hk)
theorem qSel_free {A : Nat → Prop} {H0 H : Heap} {locs : List Loc} {ws : va_W} (hD : va_D A ws) (hS : va_S A H0 H locs) (hA : ∀ q : Nat, H0.size ≤ q → A q) (bs : List Bool) : ∀ q, va_A (qSel bs ws) H.size q → A q := by
  intro q h
  rcases h with ⟨k, e, h⟩ | h
  · exact hD.2 _ (q, e) (qSel_get bs ws k _ h)
  · exact hA q (Nat.le_trans hS.1 h)
theorem qMg_W {A0 : Nat → Prop} {D : va_G} {cl : List vw_C} {ws wc2 : va_W} {H H1 : Heap} (hP : va_P D cl ws H) (hD : va_D A0 ws) (bs : List Bool) (hfst : wc2.map Prod.fst = (qSel bs ws).map Prod.fst)
    (hk : ∀ q : Nat, q < H.size → ¬ va_A (qSel bs ws) H.size q → H1[q]? = H[q]?) (hP1 : va_P D cl wc2 H1) : va_P D cl (qMg bs wc2 ws) H1 ∧ va_D A0 (qMg bs wc2 ws) := by
  have hl : wc2.length = (qSel bs ws).length := by have := congrArg List.length hfst; simpa using this
  have fs : ∀ (j : Nat) (q : Nat × va_E), wc2[j]? = some q → ∃ q1 : Nat × va_E, (qSel bs ws)[j]? = some q1 ∧ q1.1 = q.1 := by
    intro j q h
    have h1 : (wc2.map Prod.fst)[j]? = some q.1 := by rw [List.getElem?_map, h]; rfl
    rw [hfst, List.getElem?_map] at h1
    cases hw : (qSel bs ws)[j]? with
    | none => rw [hw] at h1; cases h1
    | some q1 => rw [hw] at h1; exact ⟨q1, rfl, Option.some.inj h1⟩
  have key : ∀ (k : Nat) (q : Nat × va_E), (qMg bs wc2 ws)[k]? = some q → ∃ q0 : Nat × va_E, ws[k]? = some q0 ∧ q0.1 = q.1 := by
    intro k q h
    rcases qMg_get bs wc2 ws k q hl h with ⟨j, h1, h2⟩ | ⟨h1, h2⟩
    · obtain ⟨q1, h3, h4⟩ := fs j q h2
      exact ⟨q1, by rw [h1]; exact qSel_get bs ws j q1 h3, h4⟩
    · exact ⟨q, h2, rfl⟩
  refine ⟨fun k q h => ?_, fun i j x y hi hj hxy => ?_, fun k q h => ?_⟩
  · rcases qMg_get bs wc2 ws k q hl h with ⟨j, h1, h2⟩ | ⟨h1, h2⟩
    · exact hP1 j q h2
    · have hlt := (hP k q h2).lt
      refine (hP k q h2).kept (hk q.1 hlt fun ha => ?_)
      rcases ha with ⟨j, e, h3⟩ | h3
      · have h5 := qSel_get bs ws j _ h3
        have hkk := hD.1 k _ q (q.1, e) h2 h5 rfl
        exact h1 j (by rw [hl]; exact (List.getElem?_eq_some_iff.mp h3).1) hkk
      · omega
  · obtain ⟨x0, h1, h2⟩ := key i x hi
    obtain ⟨y0, h3, h4⟩ := key j y hj
    exact hD.1 i j x0 y0 h1 h3 (h2.trans (hxy.trans h4.symm))
  · obtain ⟨q0, h1, h2⟩ := key k q h
    rw [← h2]
    exact hD.2 k q0 h1
section QR
variable {p : Program} {l : Launch} {e : Env} {R : Room} {s : State} {m : MethodId} {args : Array Value} {below : List Frame} {meth : Method} {c : Code} {H : Heap} {locs : List Loc} {cells slots : Nat} {Q : State → Prop} {cc : ByteArray} {nL pc : Nat} {ls : Array Slot} {rest : List Value} {Ts : List Cond} {own : String} {D : va_G} {tys : List (ClassId × FieldType)} {A : Nat → Prop} {H0 : Heap} {ws : va_W} {a : Nat}
theorem q_ic (M : qM p m c cc nL s args Ts own D tys) {n : Int} (hdg : decode cc pc = .ok (.iconst n, 1)) (k : W p l e R s m args below meth c H locs cells slots Q (F0 m (pc + 1) ls (.int (iI n) :: rest))) : W p l e R s m args below meth c H locs cells slots Q (F0 m pc ls rest) := lv_iconst M.1.1 M.1.2.1 hdg rfl k
theorem q_bp (M : qM p m c cc nL s args Ts own D tys) {n : Int} (hdg : decode cc pc = .ok (.bipush n, 2)) (hv : (Int8.ofInt n).toInt32 = iI n) (k : W p l e R s m args below meth c H locs cells slots Q (F0 m (pc + 2) ls (.int (iI n) :: rest))) : W p l e R s m args below meth c H locs cells slots Q (F0 m pc ls rest) := lv_bipush M.1.1 M.1.2.1 hdg hv k
theorem q_sp (M : qM p m c cc nL s args Ts own D tys) {n : Int} (hdg : decode cc pc = .ok (.sipush n, 3)) (hv : (Int16.ofInt n).toInt32 = iI n) (k : W p l e R s m args below meth c H locs cells slots Q (F0 m (pc + 3) ls (.int (iI n) :: rest))) : W p l e R s m args below meth c H locs cells slots Q (F0 m pc ls rest) := lv_sipush M.1.1 M.1.2.1 hdg hv k
theorem q_ldc (M : qM p m c cc nL s args Ts own D tys) {n : Int} {index : Nat} (hc : Cond.constant own index (iI n) ∈ Ts) (hdg : decode cc pc = .ok (.ldc index, 2)) (kk : W p l e R s m args below meth c H locs cells slots Q (F0 m (pc + 2) ls (.int (iI n) :: rest))) : W p l e R s m args below meth c H locs cells slots Q (F0 m pc ls rest) := lv_ldc M.1.1 M.1.2.1 M.1.2.2.2.1 (M.1.2.2.2.2 _ hc) hdg kk
theorem q_iln (M : qM p m c cc nL s args Ts own D tys) {k : Fin 4} {x : Int32} (hdg : decode cc pc = .ok (.iload_n k, 1)) (hl : ls[(k : Nat)]? = some (.val (.int x))) (kk : W p l e R s m args below meth c H locs cells slots Q (F0 m (pc + 1) ls (.int x :: rest))) : W p l e R s m args below meth c H locs cells slots Q (F0 m pc ls rest) := lv_iload_n M.1.1 M.1.2.1 hdg rfl hl kk
theorem q_il (M : qM p m c cc nL s args Ts own D tys) {k : Nat} {x : Int32} (hdg : decode cc pc = .ok (.iload k, 2)) (hl : ls[k]? = some (.val (.int x))) (kk : W p l e R s m args below meth c H locs cells slots Q (F0 m (pc + 2) ls (.int x :: rest))) : W p l e R s m args below meth c H locs cells slots Q (F0 m pc ls rest) := lv_iload M.1.1 M.1.2.1 hdg hl kk
theorem q_aln (M : qM p m c cc nL s args Ts own D tys) {k : Fin 4} {x : Nat} (hdg : decode cc pc = .ok (.aload_n k, 1)) (hl : ls[(k : Nat)]? = some (.val (.ref x))) (kk : W p l e R s m args below meth c H locs cells slots Q (F0 m (pc + 1) ls (.ref x :: rest))) : W p l e R s m args below meth c H locs cells slots Q (F0 m pc ls rest) := lv_aload_n M.1.1 M.1.2.1 hdg rfl hl kk
theorem q_al (M : qM p m c cc nL s args Ts own D tys) {k : Nat} {x : Nat} (hdg : decode cc pc = .ok (.aload k, 2)) (hl : ls[k]? = some (.val (.ref x))) (kk : W p l e R s m args below meth c H locs cells slots Q (F0 m (pc + 2) ls (.ref x :: rest))) : W p l e R s m args below meth c H locs cells slots Q (F0 m pc ls rest) := lv_aload M.1.1 M.1.2.1 hdg hl kk
theorem q_isn (M : qM p m c cc nL s args Ts own D tys) {k : Fin 4} {i : Nat} {x : Int32} {lv lv' : List (Nat × Value)} (hdg : decode cc pc = .ok (.istore_n k, 1)) (hi : (k : Nat) = i) (h : lv_has ls nL lv) (hn : i < nL) (hl : (i, Value.int x) :: lv.filter (fun q => !(q.1 == i) && !(q.1 + 1 == i && q.2.category == 2)) = lv') (kk : ∀ ls' : Array Slot, lv_has ls' nL lv' → W p l e R s m args below meth c H locs cells slots Q (F0 m (pc + 1) ls' rest)) : W p l e R s m args below meth c H locs cells slots Q (F0 m pc ls (.int x :: rest)) := lv_istore_n M.1.1 M.1.2.1 hdg hi h hn hl kk
theorem q_is (M : qM p m c cc nL s args Ts own D tys) {i : Nat} {x : Int32} {lv lv' : List (Nat × Value)} (hdg : decode cc pc = .ok (.istore i, 2)) (h : lv_has ls nL lv) (hn : i < nL) (hl : (i, Value.int x) :: lv.filter (fun q => !(q.1 == i) && !(q.1 + 1 == i && q.2.category == 2)) = lv') (kk : ∀ ls' : Array Slot, lv_has ls' nL lv' → W p l e R s m args below meth c H locs cells slots Q (F0 m (pc + 2) ls' rest)) : W p l e R s m args below meth c H locs cells slots Q (F0 m pc ls (.int x :: rest)) := lv_istore M.1.1 M.1.2.1 hdg h hn hl kk
theorem q_asn (M : qM p m c cc nL s args Ts own D tys) {k : Fin 4} {i : Nat} {x : Nat} {lv lv' : List (Nat × Value)} (hdg : decode cc pc = .ok (.astore_n k, 1)) (hi : (k : Nat) = i) (h : lv_has ls nL lv) (hn : i < nL) (hl : (i, Value.ref x) :: lv.filter (fun q => !(q.1 == i) && !(q.1 + 1 == i && q.2.category == 2)) = lv') (kk : ∀ ls' : Array Slot, lv_has ls' nL lv' → W p l e R s m args below meth c H locs cells slots Q (F0 m (pc + 1) ls' rest)) : W p l e R s m args below meth c H locs cells slots Q (F0 m pc ls (.ref x :: rest)) := lv_astore_n M.1.1 M.1.2.1 hdg hi h hn hl kk
theorem q_as (M : qM p m c cc nL s args Ts own D tys) {i : Nat} {x : Nat} {lv lv' : List (Nat × Value)} (hdg : decode cc pc = .ok (.astore i, 2)) (h : lv_has ls nL lv) (hn : i < nL) (hl : (i, Value.ref x) :: lv.filter (fun q => !(q.1 == i) && !(q.1 + 1 == i && q.2.category == 2)) = lv') (kk : ∀ ls' : Array Slot, lv_has ls' nL lv' → W p l e R s m args below meth c H locs cells slots Q (F0 m (pc + 2) ls' rest)) : W p l e R s m args below meth c H locs cells slots Q (F0 m pc ls (.ref x :: rest)) := lv_astore M.1.1 M.1.2.1 hdg h hn hl kk
theorem q_inc (M : qM p m c cc nL s args Ts own D tys) {i k : Nat} {n z : Int} {lv lv' : List (Nat × Value)} (hdg : decode cc pc = .ok (.iinc i n, 3)) (h : lv_has ls nL lv) (hk : lv[k]? = some (i, .int (iI z))) (hn : i < nL) (hl : (i, Value.int (iI (z + n))) :: lv.filter (fun q => !(q.1 == i) && !(q.1 + 1 == i && q.2.category == 2)) = lv') (kk : ∀ ls' : Array Slot, lv_has ls' nL lv' → W p l e R s m args below meth c H locs cells slots Q (F0 m (pc + 3) ls' rest)) : W p l e R s m args below meth c H locs cells slots Q (F0 m pc ls rest) := lv_iinc M.1.1 M.1.2.1 hdg h hk (iI_add z n) hn hl kk
theorem q_add (M : qM p m c cc nL s args Ts own D tys) {x y : Int} (hdg : decode cc pc = .ok (.iadd, 1)) (kk : W p l e R s m args below meth c H locs cells slots Q (F0 m (pc + 1) ls (.int (iI (x + y)) :: rest))) : W p l e R s m args below meth c H locs cells slots Q (F0 m pc ls (.int (iI y) :: .int (iI x) :: rest)) := lv_iadd M.1.1 M.1.2.1 hdg (by rw [iI_add]; exact kk)
theorem q_sub (M : qM p m c cc nL s args Ts own D tys) {x y : Int} (hdg : decode cc pc = .ok (.isub, 1)) (kk : W p l e R s m args below meth c H locs cells slots Q (F0 m (pc + 1) ls (.int (iI (x - y)) :: rest))) : W p l e R s m args below meth c H locs cells slots Q (F0 m pc ls (.int (iI y) :: .int (iI x) :: rest)) := lv_isub M.1.1 M.1.2.1 hdg (by rw [iI_sub]; exact kk)
theorem q_mul (M : qM p m c cc nL s args Ts own D tys) {x y : Int} (hdg : decode cc pc = .ok (.imul, 1)) (kk : W p l e R s m args below meth c H locs cells slots Q (F0 m (pc + 1) ls (.int (iI (x * y)) :: rest))) : W p l e R s m args below meth c H locs cells slots Q (F0 m pc ls (.int (iI y) :: .int (iI x) :: rest)) := lv_imul M.1.1 M.1.2.1 hdg (by rw [iI_mul]; exact kk)
theorem q_div (M : qM p m c cc nL s args Ts own D tys) {x y : Int} (hdg : decode cc pc = .ok (.idiv, 1)) (hr : (0 ≤ x ∧ x < 2147483648) ∧ 0 < y ∧ y < 2147483648) (kk : W p l e R s m args below meth c H locs cells slots Q (F0 m (pc + 1) ls (.int (iI (x / y)) :: rest))) : W p l e R s m args below meth c H locs cells slots Q (F0 m pc ls (.int (iI y) :: .int (iI x) :: rest)) :=
  lv_idiv M.1.1 M.1.2.1 hdg (fun h => by rw [iI_0, iI_eq (by omega) (by omega)] at h; omega) (by rw [iI_div hr.1 hr.2]; exact kk)
theorem q_rem (M : qM p m c cc nL s args Ts own D tys) {x y : Int} (hdg : decode cc pc = .ok (.irem, 1)) (hr : (0 ≤ x ∧ x < 2147483648) ∧ 0 < y ∧ y < 2147483648) (kk : W p l e R s m args below meth c H locs cells slots Q (F0 m (pc + 1) ls (.int (iI (x % y)) :: rest))) : W p l e R s m args below meth c H locs cells slots Q (F0 m pc ls (.int (iI y) :: .int (iI x) :: rest)) :=
  lv_irem M.1.1 M.1.2.1 hdg (fun h => by rw [iI_0, iI_eq (by omega) (by omega)] at h; omega) (by rw [iI_rem hr.1 hr.2]; exact kk)
theorem q_dup (M : qM p m c cc nL s args Ts own D tys) {v : Value} (hdg : decode cc pc = .ok (.dup, 1)) (hv : v.category = 1) (kk : W p l e R s m args below meth c H locs cells slots Q (F0 m (pc + 1) ls (v :: v :: rest))) : W p l e R s m args below meth c H locs cells slots Q (F0 m pc ls (v :: rest)) := lv_dup M.1.1 M.1.2.1 hdg hv kk
theorem q_pop (M : qM p m c cc nL s args Ts own D tys) {v : Value} (hdg : decode cc pc = .ok (.pop, 1)) (hv : v.category = 1) (kk : W p l e R s m args below meth c H locs cells slots Q (F0 m (pc + 1) ls rest)) : W p l e R s m args below meth c H locs cells slots Q (F0 m pc ls (v :: rest)) := lv_pop M.1.1 M.1.2.1 hdg hv kk
theorem q_go (M : qM p m c cc nL s args Ts own D tys) {off : Int} {tgt : Nat} (hdg : decode cc pc = .ok (.goto off, 3)) (ht : (pc : Int) + off = (tgt : Int)) (kk : W p l e R s m args below meth c H locs cells slots Q (F0 m tgt ls rest)) : W p l e R s m args below meth c H locs cells slots Q (F0 m pc ls rest) := lv_goto M.1.1 M.1.2.1 hdg ht kk
theorem q_icmp_eq (M : qM p m c cc nL s args Ts own D tys) {x y : Int} {off : Int} {tgt : Nat} (hdg : decode cc pc = .ok (.if_icmp .eq off, 3)) (ht : (pc : Int) + off = (tgt : Int)) (hr : (-2147483648 ≤ x ∧ x < 2147483648) ∧ -2147483648 ≤ y ∧ y < 2147483648) (kt : x = y → W p l e R s m args below meth c H locs cells slots Q (F0 m tgt ls rest)) (kf : x ≠ y → W p l e R s m args below meth c H locs cells slots Q (F0 m (pc + 3) ls rest)) : W p l e R s m args below meth c H locs cells slots Q (F0 m pc ls (.int (iI y) :: .int (iI x) :: rest)) := by
  refine lv_icmp_eq M.1.1 M.1.2.1 hdg ht (fun h => kt ?_) (fun h => kf ?_)
  · exact (iI_eq (by omega) (by omega)).mp h
  · exact fun q => h ((iI_eq (by omega) (by omega)).mpr q)
theorem q_if_eq (M : qM p m c cc nL s args Ts own D tys) {x : Int} {off : Int} {tgt : Nat} (hdg : decode cc pc = .ok (.ifCond .eq off, 3)) (ht : (pc : Int) + off = (tgt : Int)) (hr : -2147483648 ≤ x ∧ x < 2147483648) (kt : x = 0 → W p l e R s m args below meth c H locs cells slots Q (F0 m tgt ls rest)) (kf : x ≠ 0 → W p l e R s m args below meth c H locs cells slots Q (F0 m (pc + 3) ls rest)) : W p l e R s m args below meth c H locs cells slots Q (F0 m pc ls (.int (iI x) :: rest)) := by
  refine lv_if_eq M.1.1 M.1.2.1 hdg ht (fun h => kt ?_) (fun h => kf ?_)
  · rw [iI_0] at h; exact (iI_eq (by omega) (by omega)).mp h
  · rw [iI_0] at h; exact fun q => h ((iI_eq (by omega) (by omega)).mpr q)
theorem q_icmp_ne (M : qM p m c cc nL s args Ts own D tys) {x y : Int} {off : Int} {tgt : Nat} (hdg : decode cc pc = .ok (.if_icmp .ne off, 3)) (ht : (pc : Int) + off = (tgt : Int)) (hr : (-2147483648 ≤ x ∧ x < 2147483648) ∧ -2147483648 ≤ y ∧ y < 2147483648) (kt : x ≠ y → W p l e R s m args below meth c H locs cells slots Q (F0 m tgt ls rest)) (kf : x = y → W p l e R s m args below meth c H locs cells slots Q (F0 m (pc + 3) ls rest)) : W p l e R s m args below meth c H locs cells slots Q (F0 m pc ls (.int (iI y) :: .int (iI x) :: rest)) := by
  refine lv_icmp_ne M.1.1 M.1.2.1 hdg ht (fun h => kt ?_) (fun h => kf ?_)
  · exact fun q => h ((iI_eq (by omega) (by omega)).mpr q)
  · exact (iI_eq (by omega) (by omega)).mp h
theorem q_if_ne (M : qM p m c cc nL s args Ts own D tys) {x : Int} {off : Int} {tgt : Nat} (hdg : decode cc pc = .ok (.ifCond .ne off, 3)) (ht : (pc : Int) + off = (tgt : Int)) (hr : -2147483648 ≤ x ∧ x < 2147483648) (kt : x ≠ 0 → W p l e R s m args below meth c H locs cells slots Q (F0 m tgt ls rest)) (kf : x = 0 → W p l e R s m args below meth c H locs cells slots Q (F0 m (pc + 3) ls rest)) : W p l e R s m args below meth c H locs cells slots Q (F0 m pc ls (.int (iI x) :: rest)) := by
  refine lv_if_ne M.1.1 M.1.2.1 hdg ht (fun h => kt ?_) (fun h => kf ?_)
  · rw [iI_0] at h; exact fun q => h ((iI_eq (by omega) (by omega)).mpr q)
  · rw [iI_0] at h; exact (iI_eq (by omega) (by omega)).mp h
theorem q_icmp_lt (M : qM p m c cc nL s args Ts own D tys) {x y : Int} {off : Int} {tgt : Nat} (hdg : decode cc pc = .ok (.if_icmp .lt off, 3)) (ht : (pc : Int) + off = (tgt : Int)) (hr : (-2147483648 ≤ x ∧ x < 2147483648) ∧ -2147483648 ≤ y ∧ y < 2147483648) (kt : x < y → W p l e R s m args below meth c H locs cells slots Q (F0 m tgt ls rest)) (kf : y ≤ x → W p l e R s m args below meth c H locs cells slots Q (F0 m (pc + 3) ls rest)) : W p l e R s m args below meth c H locs cells slots Q (F0 m pc ls (.int (iI y) :: .int (iI x) :: rest)) := by
  refine lv_icmp_lt M.1.1 M.1.2.1 hdg ht (fun h => kt ?_) (fun h => kf ?_)
  · exact (iI_lt (by omega) (by omega)).mp h
  · exact Int.not_lt.mp (fun q => h ((iI_lt (by omega) (by omega)).mpr q))
theorem q_if_lt (M : qM p m c cc nL s args Ts own D tys) {x : Int} {off : Int} {tgt : Nat} (hdg : decode cc pc = .ok (.ifCond .lt off, 3)) (ht : (pc : Int) + off = (tgt : Int)) (hr : -2147483648 ≤ x ∧ x < 2147483648) (kt : x < 0 → W p l e R s m args below meth c H locs cells slots Q (F0 m tgt ls rest)) (kf : 0 ≤ x → W p l e R s m args below meth c H locs cells slots Q (F0 m (pc + 3) ls rest)) : W p l e R s m args below meth c H locs cells slots Q (F0 m pc ls (.int (iI x) :: rest)) := by
  refine lv_if_lt M.1.1 M.1.2.1 hdg ht (fun h => kt ?_) (fun h => kf ?_)
  · rw [iI_0] at h; exact (iI_lt (by omega) (by omega)).mp h
  · rw [iI_0] at h; exact Int.not_lt.mp (fun q => h ((iI_lt (by omega) (by omega)).mpr q))
theorem q_icmp_ge (M : qM p m c cc nL s args Ts own D tys) {x y : Int} {off : Int} {tgt : Nat} (hdg : decode cc pc = .ok (.if_icmp .ge off, 3)) (ht : (pc : Int) + off = (tgt : Int)) (hr : (-2147483648 ≤ x ∧ x < 2147483648) ∧ -2147483648 ≤ y ∧ y < 2147483648) (kt : y ≤ x → W p l e R s m args below meth c H locs cells slots Q (F0 m tgt ls rest)) (kf : x < y → W p l e R s m args below meth c H locs cells slots Q (F0 m (pc + 3) ls rest)) : W p l e R s m args below meth c H locs cells slots Q (F0 m pc ls (.int (iI y) :: .int (iI x) :: rest)) := by
  refine lv_icmp_ge M.1.1 M.1.2.1 hdg ht (fun h => kt ?_) (fun h => kf ?_)
  · exact (iI_le (by omega) (by omega)).mp h
  · exact Int.not_le.mp (fun q => h ((iI_le (by omega) (by omega)).mpr q))
theorem q_if_ge (M : qM p m c cc nL s args Ts own D tys) {x : Int} {off : Int} {tgt : Nat} (hdg : decode cc pc = .ok (.ifCond .ge off, 3)) (ht : (pc : Int) + off = (tgt : Int)) (hr : -2147483648 ≤ x ∧ x < 2147483648) (kt : 0 ≤ x → W p l e R s m args below meth c H locs cells slots Q (F0 m tgt ls rest)) (kf : x < 0 → W p l e R s m args below meth c H locs cells slots Q (F0 m (pc + 3) ls rest)) : W p l e R s m args below meth c H locs cells slots Q (F0 m pc ls (.int (iI x) :: rest)) := by
  refine lv_if_ge M.1.1 M.1.2.1 hdg ht (fun h => kt ?_) (fun h => kf ?_)
  · rw [iI_0] at h; exact (iI_le (by omega) (by omega)).mp h
  · rw [iI_0] at h; exact Int.not_le.mp (fun q => h ((iI_le (by omega) (by omega)).mpr q))
theorem q_icmp_gt (M : qM p m c cc nL s args Ts own D tys) {x y : Int} {off : Int} {tgt : Nat} (hdg : decode cc pc = .ok (.if_icmp .gt off, 3)) (ht : (pc : Int) + off = (tgt : Int)) (hr : (-2147483648 ≤ x ∧ x < 2147483648) ∧ -2147483648 ≤ y ∧ y < 2147483648) (kt : y < x → W p l e R s m args below meth c H locs cells slots Q (F0 m tgt ls rest)) (kf : x ≤ y → W p l e R s m args below meth c H locs cells slots Q (F0 m (pc + 3) ls rest)) : W p l e R s m args below meth c H locs cells slots Q (F0 m pc ls (.int (iI y) :: .int (iI x) :: rest)) := by
  refine lv_icmp_gt M.1.1 M.1.2.1 hdg ht (fun h => kt ?_) (fun h => kf ?_)
  · exact (iI_lt (by omega) (by omega)).mp h
  · exact Int.not_lt.mp (fun q => h ((iI_lt (by omega) (by omega)).mpr q))
theorem q_if_gt (M : qM p m c cc nL s args Ts own D tys) {x : Int} {off : Int} {tgt : Nat} (hdg : decode cc pc = .ok (.ifCond .gt off, 3)) (ht : (pc : Int) + off = (tgt : Int)) (hr : -2147483648 ≤ x ∧ x < 2147483648) (kt : 0 < x → W p l e R s m args below meth c H locs cells slots Q (F0 m tgt ls rest)) (kf : x ≤ 0 → W p l e R s m args below meth c H locs cells slots Q (F0 m (pc + 3) ls rest)) : W p l e R s m args below meth c H locs cells slots Q (F0 m pc ls (.int (iI x) :: rest)) := by
  refine lv_if_gt M.1.1 M.1.2.1 hdg ht (fun h => kt ?_) (fun h => kf ?_)
  · rw [iI_0] at h; exact (iI_lt (by omega) (by omega)).mp h
  · rw [iI_0] at h; exact Int.not_lt.mp (fun q => h ((iI_lt (by omega) (by omega)).mpr q))
theorem q_icmp_le (M : qM p m c cc nL s args Ts own D tys) {x y : Int} {off : Int} {tgt : Nat} (hdg : decode cc pc = .ok (.if_icmp .le off, 3)) (ht : (pc : Int) + off = (tgt : Int)) (hr : (-2147483648 ≤ x ∧ x < 2147483648) ∧ -2147483648 ≤ y ∧ y < 2147483648) (kt : x ≤ y → W p l e R s m args below meth c H locs cells slots Q (F0 m tgt ls rest)) (kf : y < x → W p l e R s m args below meth c H locs cells slots Q (F0 m (pc + 3) ls rest)) : W p l e R s m args below meth c H locs cells slots Q (F0 m pc ls (.int (iI y) :: .int (iI x) :: rest)) := by
  refine lv_icmp_le M.1.1 M.1.2.1 hdg ht (fun h => kt ?_) (fun h => kf ?_)
  · exact (iI_le (by omega) (by omega)).mp h
  · exact Int.not_le.mp (fun q => h ((iI_le (by omega) (by omega)).mpr q))
theorem q_if_le (M : qM p m c cc nL s args Ts own D tys) {x : Int} {off : Int} {tgt : Nat} (hdg : decode cc pc = .ok (.ifCond .le off, 3)) (ht : (pc : Int) + off = (tgt : Int)) (hr : -2147483648 ≤ x ∧ x < 2147483648) (kt : x ≤ 0 → W p l e R s m args below meth c H locs cells slots Q (F0 m tgt ls rest)) (kf : 0 < x → W p l e R s m args below meth c H locs cells slots Q (F0 m (pc + 3) ls rest)) : W p l e R s m args below meth c H locs cells slots Q (F0 m pc ls (.int (iI x) :: rest)) := by
  refine lv_if_le M.1.1 M.1.2.1 hdg ht (fun h => kt ?_) (fun h => kf ?_)
  · rw [iI_0] at h; exact (iI_le (by omega) (by omega)).mp h
  · rw [iI_0] at h; exact Int.not_le.mp (fun q => h ((iI_le (by omega) (by omega)).mpr q))
theorem q_get (M : qM p m c cc nL s args Ts own D tys) (w : wW D A H0 ws H locs) {C : String} {T : u_T} {N ci index : Nat} (hin : ∀ w ∈ u_ws C T N, w ∈ Ts) (q0 k : Nat) {fs : List Value} {v : Value} (he : ws[q0]? = some (a, .inr (ci, fs))) (hc : vwCl[ci]? = some (C, T, N)) (hk : k < N) (hl : Cond.fieldLink own index C (T k).2.1 (T k).2.2.1 ∈ Ts) (ho : (T k).1 = C) (hv : fs[k]? = some v) (hdg : decode cc pc = .ok (.getfield index, 3))
    (kk : W p l e R s m args below meth c H locs cells slots Q (F0 m (pc + 3) ls (v :: rest))) : W p l e R s m args below meth c H locs cells slots Q (F0 m pc ls (.ref a :: rest)) :=
  va_get M.1.1 M.1.2.1 M.1.2.2.2.2 hin M.1.2.2.2.1 M.2 w.1 q0 he hc k hk (M.1.2.2.2.2 _ hl) (fun _ h => by rw [ho] at h; exact h) hv hdg kk
theorem q_put (M : qM p m c cc nL s args Ts own D tys) (w : wW D A H0 ws H locs) {C : String} {T : u_T} {N ci index : Nat} (hin : ∀ w ∈ u_ws C T N, w ∈ Ts) (q0 k : Nat) {fs : List Value} {v : Value} {ws2 : va_W} (ty0 : Nat → FieldType) (hty : ∀ k, k < N → parseFieldDescriptor (T k).2.2.1 = some (ty0 k)) (hnm : ∀ a, a < N → ∀ b, b < N → a ≠ b → (T a).2.1 ≠ (T b).2.1) (he : ws[q0]? = some (a, .inr (ci, fs))) (hc : vwCl[ci]? = some (C, T, N)) (hk : k < N) (hl : Cond.fieldLink own index C (T k).2.1 (T k).2.2.1 ∈ Ts) (ho : (T k).1 = C) (hf : (T k).2.2.2 = false) (hn : narrow (ty0 k) v = v) (hfit : fits (ty0 k) v = true) (hlen : k < fs.length) (h2 : ws.set q0 (a, .inr (ci, fs.set k v)) = ws2) (hdg : decode cc pc = .ok (.putfield index, 3))
    (kk : ∀ (H1 : Heap) (locs1 : List Loc), wW D A H0 ws2 H1 locs1 → W p l e R s m args below meth c H1 locs1 cells slots Q (F0 m (pc + 3) ls rest)) : W p l e R s m args below meth c H locs cells slots Q (F0 m pc ls (v :: .ref a :: rest)) :=
  va_put M.1.1 M.1.2.1 M.1.2.2.2.2 hin ty0 hty hnm M.1.2.2.2.1 M.2 w.1 w.2.1 w.2.2 q0 he hc k hk (M.1.2.2.2.2 _ hl) (fun _ h => by rw [ho] at h; exact h) hf (hty k hk) hn hfit hlen hdg (fun H1 locs1 g1 g2 g3 => kk H1 locs1 (h2 ▸ ⟨g1, g2, g3⟩))
theorem q_putF (M : qM p m c cc nL s args Ts own D tys) (w : wW D A H0 ws H locs) {C : String} {T : u_T} {N ci index : Nat} (hin : ∀ w ∈ u_ws C T N, w ∈ Ts) (q0 k : Nat) {fs : List Value} {v : Value} {ws2 : va_W} (ty0 : Nat → FieldType) (hty : ∀ k, k < N → parseFieldDescriptor (T k).2.2.1 = some (ty0 k)) (hnm : ∀ a, a < N → ∀ b, b < N → a ≠ b → (T a).2.1 ≠ (T b).2.1) (he : ws[q0]? = some (a, .inr (ci, fs))) (hc : vwCl[ci]? = some (C, T, N)) (hk : k < N) (hl : Cond.fieldLink own index C (T k).2.1 (T k).2.2.1 ∈ Ts) (ho : (T k).1 = C) (hf : (T k).2.2.2 = true) (hin2 : meth.name = "<init>") (hdecl : (T k).1 = own) (hn : narrow (ty0 k) v = v) (hfit : fits (ty0 k) v = true) (hlen : k < fs.length) (h2 : ws.set q0 (a, .inr (ci, fs.set k v)) = ws2) (hdg : decode cc pc = .ok (.putfield index, 3))
    (kk : ∀ (H1 : Heap) (locs1 : List Loc), wW D A H0 ws2 H1 locs1 → W p l e R s m args below meth c H1 locs1 cells slots Q (F0 m (pc + 3) ls rest)) : W p l e R s m args below meth c H locs cells slots Q (F0 m pc ls (v :: .ref a :: rest)) :=
  va_putF M.1.1 M.1.2.1 M.1.2.2.2.2 hin ty0 hty hnm M.1.2.2.2.1 M.2 w.1 w.2.1 w.2.2 q0 he hc k hk (M.1.2.2.2.2 _ hl) (fun _ h => by rw [ho] at h; exact h) hf hin2 hdecl (hty k hk) hn hfit hlen hdg (fun H1 locs1 g1 g2 g3 => kk H1 locs1 (h2 ▸ ⟨g1, g2, g3⟩))
theorem q_iald (M : qM p m c cc nL s args Ts own D tys) (w : wW D A H0 ws H locs) (q0 t0 : Nat) {cA : ClassId} {n : Nat} {f : Int → Int} {i : Int} (ha : ws[q0]? = some (a, .inl (cA, n, .inl (iF f)))) (ht : tys[t0]? = some (cA, .int)) (hi : (0 ≤ i ∧ i < n) ∧ i < 2147483648) (hdg : decode cc pc = .ok (.iaload, 1))
    (kk : W p l e R s m args below meth c H locs cells slots Q (F0 m (pc + 1) ls (.int (iI (f i)) :: rest))) : W p l e R s m args below meth c H locs cells slots Q (F0 m pc ls (.int (iI i) :: .ref a :: rest)) :=
  va_iald M.1.1 M.1.2.1 M.2 w.1 q0 t0 ha ht (iI_in hi.1 hi.2) hdg (by rw [iF_at f ⟨hi.1.1, hi.2⟩]; exact kk)
theorem q_zald (M : qM p m c cc nL s args Ts own D tys) (w : wW D A H0 ws H locs) (q0 t0 : Nat) {cA : ClassId} {n : Nat} {f : Int → Int} {i : Int} (ha : ws[q0]? = some (a, .inl (cA, n, .inl (iF f)))) (ht : tys[t0]? = some (cA, .boolean)) (hi : (0 ≤ i ∧ i < n) ∧ i < 2147483648) (hdg : decode cc pc = .ok (.baload, 1))
    (kk : W p l e R s m args below meth c H locs cells slots Q (F0 m (pc + 1) ls (.int (iI (f i)) :: rest))) : W p l e R s m args below meth c H locs cells slots Q (F0 m pc ls (.int (iI i) :: .ref a :: rest)) :=
  va_zald M.1.1 M.1.2.1 M.2 w.1 q0 t0 ha ht (iI_in hi.1 hi.2) hdg (by rw [iF_at f ⟨hi.1.1, hi.2⟩]; exact kk)
theorem q_iast (M : qM p m c cc nL s args Ts own D tys) (w : wW D A H0 ws H locs) (q0 t0 : Nat) {cA : ClassId} {n : Nat} {f : Int → Int} {i v : Int} {ws2 : va_W} (ha : ws[q0]? = some (a, .inl (cA, n, .inl (iF f)))) (ht : tys[t0]? = some (cA, .int)) (hi : (0 ≤ i ∧ i < n) ∧ i < 2147483648) (h2 : ws.set q0 (a, .inl (cA, n, .inl (iF (iU f i v)))) = ws2) (hdg : decode cc pc = .ok (.iastore, 1))
    (kk : ∀ (H1 : Heap) (locs1 : List Loc), wW D A H0 ws2 H1 locs1 → W p l e R s m args below meth c H1 locs1 cells slots Q (F0 m (pc + 1) ls rest)) : W p l e R s m args below meth c H locs cells slots Q (F0 m pc ls (.int (iI v) :: .int (iI i) :: .ref a :: rest)) :=
  va_iast M.1.1 M.1.2.1 M.2 w.1 w.2.1 w.2.2 q0 t0 ha ht (iI_in hi.1 hi.2) hdg (fun H1 locs1 g1 g2 g3 => kk H1 locs1 (by rw [iF_up f ⟨hi.1.1, hi.2⟩] at g1 g2; exact h2 ▸ ⟨g1, g2, g3⟩))
theorem q_nz {v : Int} (h : v = 0 ∨ v = 1) : vp_nar .boolean (iI v) = iI v := by
  rcases h with rfl | rfl
  · decide +kernel
  · decide +kernel
theorem q_zast (M : qM p m c cc nL s args Ts own D tys) (w : wW D A H0 ws H locs) (q0 t0 : Nat) {cA : ClassId} {n : Nat} {f : Int → Int} {i v : Int} {ws2 : va_W} (ha : ws[q0]? = some (a, .inl (cA, n, .inl (iF f)))) (ht : tys[t0]? = some (cA, .boolean)) (hi : (0 ≤ i ∧ i < n) ∧ i < 2147483648) (hv : v = 0 ∨ v = 1) (h2 : ws.set q0 (a, .inl (cA, n, .inl (iF (iU f i v)))) = ws2) (hdg : decode cc pc = .ok (.bastore, 1))
    (kk : ∀ (H1 : Heap) (locs1 : List Loc), wW D A H0 ws2 H1 locs1 → W p l e R s m args below meth c H1 locs1 cells slots Q (F0 m (pc + 1) ls rest)) : W p l e R s m args below meth c H locs cells slots Q (F0 m pc ls (.int (iI v) :: .int (iI i) :: .ref a :: rest)) :=
  va_zast M.1.1 M.1.2.1 M.2 w.1 w.2.1 w.2.2 q0 t0 ha ht (iI_in hi.1 hi.2) hdg (fun H1 locs1 g1 g2 g3 => kk H1 locs1 (by rw [q_nz hv, iF_up f ⟨hi.1.1, hi.2⟩] at g1 g2; exact h2 ▸ ⟨g1, g2, g3⟩))
theorem q_alen (M : qM p m c cc nL s args Ts own D tys) (w : wW D A H0 ws H locs) (q0 t0 : Nat) {cA : ClassId} {x : vp_A} (ha : ws[q0]? = some (a, .inl (cA, x))) {ty : FieldType} (ht : tys[t0]? = some (cA, ty)) (hdg : decode cc pc = .ok (.arraylength, 1))
    (kk : W p l e R s m args below meth c H locs cells slots Q (F0 m (pc + 1) ls (.int (iI (x.1 : Int)) :: rest))) : W p l e R s m args below meth c H locs cells slots Q (F0 m pc ls (.ref a :: rest)) :=
  va_alen M.1.1 M.1.2.1 M.2 w.1 q0 t0 ha ht (Int32.ofInt_eq_ofNat.symm) hdg kk
/-- another name for the number on top -/
theorem q_top {x y : Int} (h : x = y) (k : W p l e R s m args below meth c H locs cells slots Q (F0 m pc ls (.int (iI y) :: rest))) : W p l e R s m args below meth c H locs cells slots Q (F0 m pc ls (.int (iI x) :: rest)) := by rw [h]; exact k
theorem q_at {pc2 : Nat} (h : pc = pc2) (k : W p l e R s m args below meth c H locs cells slots Q (F0 m pc2 ls rest)) : W p l e R s m args below meth c H locs cells slots Q (F0 m pc ls rest) := by rw [h]; exact k
end QR
/-- what a plain method starts from -/
def qB (D : va_G) (tys : List (ClassId × FieldType)) (ws : va_W) (sz : Nat) : State → Prop := fun U => U.heap.size = sz ∧ va_P D vwCl ws U.heap ∧ va_K D vwCl tys U ∧ va_D (fun _ => True) ws
theorem qB_blind {av : List Value} {D : va_G} {tys : List (ClassId × FieldType)} {ws : va_W} {sz : Nat} : FrameBlind (va_Pc av (qB D tys ws sz)) := fun a U g mk q => by
  obtain ⟨q0, q1, qP, qK, qD⟩ := q
  exact ⟨q0, q1, qP, va_K.moved (u := U) (U := U.calling g mk a) (Vm.Alike.refl U.vm) qK, qD⟩
/-- a method that answers a number: z, and leaves the world ws2 -/
def Ci (l : Launch) (D : va_G) (tys : List (ClassId × FieldType)) (y : MethodName) (wds : List Cond) (rm : Room) (av : List Value) (ws : va_W) (z : Int) (ws2 : va_W) : Prop :=
  ∀ sz : Nat, Met l y wds rm (va_Pc av (qB D tys ws sz)) (va_Qi (fun (r : Int32) (_ : Unit) => r = iI z) (fun _ t => va_P D vwCl ws2 t.heap) (va_A ws sz)) 0 0 (va_A ws sz)
def Cv (l : Launch) (D : va_G) (tys : List (ClassId × FieldType)) (y : MethodName) (wds : List Cond) (rm : Room) (av : List Value) (ws : va_W) (ws2 : va_W) : Prop :=
  ∀ sz : Nat, Met l y wds rm (va_Pc av (qB D tys ws sz)) (va_Qv (fun (_ : Unit) => True) (fun _ t => va_P D vwCl ws2 t.heap) (va_A ws sz)) 0 0 (va_A ws sz)
theorem qi_of {l : Launch} {D : va_G} {tys : List (ClassId × FieldType)} {y : MethodName} {wds wds' : List Cond} {rm : Room} {av : List Value} {ws ws2 : va_W} {z : Int} {cc : ByteArray} {maxL : Nat} (hy : plainName y.cls = true) (hw : wds = Cond.code y cc maxL (some .int) :: wds') (hlen : (lg_sl av).length ≤ maxL)
    (body : ∀ (p : Program) (e : Env) (s : State) (m : MethodId) (args : Array Value) (below : List Frame) (meth : Method) (c : Code) (A : Nat → Prop) (Q : State → Prop) (ls : Array Slot), qM p m c cc maxL s args wds y.cls D tys → (∀ q : Nat, s.heap.size ≤ q → A q) → wW D A s.heap ws s.heap [] → lv_has ls maxL (lv_args 0 av) →
      (∀ (pc : Nat) (ls1 : Array Slot) (H1 : Heap) (locs1 : List Loc) (z1 : Int), decode cc pc = .ok (.ireturn, 1) → wW D A s.heap ws2 H1 locs1 → z1 = z → W p l e rm s m args below meth c H1 locs1 0 0 Q (F0 m pc ls1 [.int (iI z1)])) →
      W p l e rm s m args below meth c s.heap [] 0 0 Q (F0 m 0 ls [])) : Ci l D tys y wds rm av ws z ws2 := by
  intro sz
  refine Met.ofW (cc := cc) (maxL := maxL) (ret := some .int) hy hw ?_
  intro p e s m args below meth c s₁ B hml hv
  obtain ⟨rfl, hsz, hP, hK, hD0⟩ := hv
  have hlocks := B.notSynchronized
  subst hsz
  rw [lg_entry_eq]
  have hl := lv_entry av (n := maxL) hlen
  exact body p e s m _ below meth c (va_A ws s.heap.size) _ _ ⟨⟨B.exec, B.bytes, hml, findClass_of_methodNamed B.named, atoms_spec (ws := wds) B.pre⟩, hK⟩ (fun q h => Or.inr h) ⟨hP, hD0.self, va_S.rf⟩ hl
    (fun pc ls1 H1 locs1 z1 hdg w1 hz => by
      subst hz
      exact W.iret B.exec B.bytes B.returns (fun t ht _ => ⟨⟨_, (), rfl, rfl, by show va_P D vwCl ws2 t.heap; rw [ht]; exact w1.1⟩, w1.2.2.F ht⟩) w1.2.2.2.2 hdg)
theorem q_nz2 {v : Int} (h : v = 0 ∨ v = 1) : narrow .boolean (.int (iI v)) = .int (iI v) := by
  rcases h with rfl | rfl
  · decide +kernel
  · decide +kernel
theorem q_fz {v : Int} (h : v = 0 ∨ v = 1) : fits .boolean (.int (iI v)) = true := by
  rcases h with rfl | rfl
  · decide +kernel
  · decide +kernel
theorem qz_of {l : Launch} {D : va_G} {tys : List (ClassId × FieldType)} {y : MethodName} {wds wds' : List Cond} {rm : Room} {av : List Value} {ws ws2 : va_W} {z : Int} {cc : ByteArray} {maxL : Nat} (hy : plainName y.cls = true) (hw : wds = Cond.code y cc maxL (some .boolean) :: wds') (hlen : (lg_sl av).length ≤ maxL) (hz01 : z = 0 ∨ z = 1)
    (body : ∀ (p : Program) (e : Env) (s : State) (m : MethodId) (args : Array Value) (below : List Frame) (meth : Method) (c : Code) (A : Nat → Prop) (Q : State → Prop) (ls : Array Slot), qM p m c cc maxL s args wds y.cls D tys → (∀ q : Nat, s.heap.size ≤ q → A q) → wW D A s.heap ws s.heap [] → lv_has ls maxL (lv_args 0 av) →
      (∀ (pc : Nat) (ls1 : Array Slot) (H1 : Heap) (locs1 : List Loc) (z1 : Int), decode cc pc = .ok (.ireturn, 1) → wW D A s.heap ws2 H1 locs1 → z1 = z → W p l e rm s m args below meth c H1 locs1 0 0 Q (F0 m pc ls1 [.int (iI z1)])) →
      W p l e rm s m args below meth c s.heap [] 0 0 Q (F0 m 0 ls [])) : Ci l D tys y wds rm av ws z ws2 := by
  intro sz
  refine Met.ofW (cc := cc) (maxL := maxL) (ret := some .boolean) hy hw ?_
  intro p e s m args below meth c s₁ B hml hv
  obtain ⟨rfl, hsz, hP, hK, hD0⟩ := hv
  have hlocks := B.notSynchronized
  subst hsz
  rw [lg_entry_eq]
  have hl := lv_entry av (n := maxL) hlen
  exact body p e s m _ below meth c (va_A ws s.heap.size) _ _ ⟨⟨B.exec, B.bytes, hml, findClass_of_methodNamed B.named, atoms_spec (ws := wds) B.pre⟩, hK⟩ (fun q h => Or.inr h) ⟨hP, hD0.self, va_S.rf⟩ hl
    (fun pc ls1 H1 locs1 z1 hdg w1 hz => by
      subst hz
      exact W.zret B.exec B.bytes B.returns (q_nz2 hz01) (fun t ht _ => ⟨⟨_, (), rfl, rfl, by show va_P D vwCl ws2 t.heap; rw [ht]; exact w1.1⟩, w1.2.2.F ht⟩) w1.2.2.2.2 hdg)
theorem qv_of {l : Launch} {D : va_G} {tys : List (ClassId × FieldType)} {y : MethodName} {wds wds' : List Cond} {rm : Room} {av : List Value} {ws ws2 : va_W} {cc : ByteArray} {maxL : Nat} (hy : plainName y.cls = true) (hw : wds = Cond.code y cc maxL none :: wds') (hlen : (lg_sl av).length ≤ maxL)
    (body : ∀ (p : Program) (e : Env) (s : State) (m : MethodId) (args : Array Value) (below : List Frame) (meth : Method) (c : Code) (A : Nat → Prop) (Q : State → Prop) (ls : Array Slot), qM p m c cc maxL s args wds y.cls D tys → (∀ q : Nat, s.heap.size ≤ q → A q) → wW D A s.heap ws s.heap [] → lv_has ls maxL (lv_args 0 av) →
      (∀ (pc : Nat) (ls1 : Array Slot) (H1 : Heap) (locs1 : List Loc), decode cc pc = .ok (.return_, 1) → wW D A s.heap ws2 H1 locs1 → W p l e rm s m args below meth c H1 locs1 0 0 Q (F0 m pc ls1 [])) →
      W p l e rm s m args below meth c s.heap [] 0 0 Q (F0 m 0 ls [])) : Cv l D tys y wds rm av ws ws2 := by
  intro sz
  refine Met.ofW (cc := cc) (maxL := maxL) (ret := none) hy hw ?_
  intro p e s m args below meth c s₁ B hml hv
  obtain ⟨rfl, hsz, hP, hK, hD0⟩ := hv
  have hlocks := B.notSynchronized
  subst hsz
  rw [lg_entry_eq]
  have hl := lv_entry av (n := maxL) hlen
  exact body p e s m _ below meth c (va_A ws s.heap.size) _ _ ⟨⟨B.exec, B.bytes, hml, findClass_of_methodNamed B.named, atoms_spec (ws := wds) B.pre⟩, hK⟩ (fun q h => Or.inr h) ⟨hP, hD0.self, va_S.rf⟩ hl
    (fun pc ls1 H1 locs1 hdg w1 => W.vret B.exec B.bytes B.returns (fun t ht _ => ⟨⟨(), rfl, trivial, by show va_P D vwCl ws2 t.heap; rw [ht]; exact w1.1⟩, w1.2.2.F ht⟩) w1.2.2.2.2 hdg)
section QC
variable {p : Program} {l : Launch} {e : Env} {R : Room} {s : State} {m : MethodId} {args : Array Value} {below : List Frame} {meth : Method} {c : Code} {H : Heap} {locs : List Loc} {cells slots : Nat} {Q : State → Prop} {cc bytes : ByteArray} {nL maxL index pc : Nat} {ls : Array Slot} {rest As st0 : List Value} {Ts wds wds' : List Cond} {own C : String} {D : va_G} {tys : List (ClassId × FieldType)} {A : Nat → Prop} {H0 : Heap} {ws wc wc2 ws2 : va_W} {b : Nat} {y : MethodName} {rm : Room} {z : Int} {ret : Option FieldType} {lv : List (Nat × Value)}
/-- a call of a method with a receiver, that answers a number -/
theorem qc_iV (M : qM p m c cc nL s args Ts own D tys) (w : wW D A H0 ws H locs) (hA : ∀ q : Nat, H0.size ≤ q → A q) (hl : lv_has ls nL lv) (hC : Ci l D tys y wds rm (.ref b :: As) wc z wc2) (hg : GoodIn Ts (wsV own index C y wds)) (hw : wds = Cond.code y bytes maxL ret :: wds')
    (hrm : rm.cells = 0 ∧ rm.slots = 0 ∧ rm.frames + 1 ≤ R.frames ∧ 8 + (maxL + 11) + rm.locals ≤ R.locals) (hcs : cells ≤ R.cells ∧ slots ≤ R.slots) (n : Nat) (hd : y.cls = C ∧ y.cls ≠ "java/lang/invoke/MethodHandle" ∧ y.cls ≠ "java/lang/invoke/VarHandle" ∧ (parseMethodDescriptor y.desc).map (fun d => d.parameters.length) = some n) (hn : As.length = n)
    (bs : List Bool) (hwc : qSel bs ws = wc) (hfst : wc2.map Prod.fst = wc.map Prod.fst) (q0 : Nat) {ci : Nat} {fs : List Value} {T : u_T} {N : Nat} (he : ws[q0]? = some (b, .inr (ci, fs))) (hc : vwCl[ci]? = some (C, T, N))
    (hst : st0 = As.reverse ++ .ref b :: rest) (hrest : (rest.map fun v => v.category).sum ≤ 8) (h2 : qMg bs wc2 ws = ws2) (hdg : decode cc pc = .ok (.invokevirtual index, 3))
    (kk : ∀ (H1 : Heap) (locs1 : List Loc), wW D A H0 ws2 H1 locs1 → W p l e R s m args below meth c H1 locs1 cells slots Q (F0 m (pc + 3) ls (.int (iI z) :: rest))) : W p l e R s m args below meth c H locs cells slots Q (F0 m pc ls st0) := by
  subst hwc
  have hP : va_P D vwCl (qSel bs ws) H ∧ va_D (fun _ => True) (qSel bs ws) := ⟨qSel_P w.1 bs, (qSel_D w.2.1 bs).weaken (fun _ _ _ _ => trivial)⟩
  have hF := qSel_free w.2.1 w.2.2 hA bs
  refine va_calli (va_runV (As := As) (rest := rest) M.1 (hC H.size) (cwV n M.1.2.2.2.2 hg hw hrm.1 hrm.2.1 hd hrm.2.2) ⟨qB_blind, va_recv M.2 w.1 hc he, fun U hU hW => ⟨rfl, by rw [hU], by rw [hU]; exact hP.1, va_K.moved hW.alike M.2, hP.2⟩⟩ rfl hn hl.1 hst (lv_room hrest) hdg hcs) w.2.2 (fun q _ h => hF q h) hF (fun r u t H1 locs1 ht hvm hr hB hz1 hk1 hS => ?_)
  subst hr
  rw [ht] at hB
  obtain ⟨g1, g2⟩ := qMg_W w.1 w.2.1 bs hfst hk1 hB
  exact kk H1 locs1 (h2 ▸ ⟨g1, g2, hS⟩)
theorem qc_vV (M : qM p m c cc nL s args Ts own D tys) (w : wW D A H0 ws H locs) (hA : ∀ q : Nat, H0.size ≤ q → A q) (hl : lv_has ls nL lv) (hC : Cv l D tys y wds rm (.ref b :: As) wc wc2) (hg : GoodIn Ts (wsV own index C y wds)) (hw : wds = Cond.code y bytes maxL ret :: wds')
    (hrm : rm.cells = 0 ∧ rm.slots = 0 ∧ rm.frames + 1 ≤ R.frames ∧ 8 + (maxL + 11) + rm.locals ≤ R.locals) (hcs : cells ≤ R.cells ∧ slots ≤ R.slots) (n : Nat) (hd : y.cls = C ∧ y.cls ≠ "java/lang/invoke/MethodHandle" ∧ y.cls ≠ "java/lang/invoke/VarHandle" ∧ (parseMethodDescriptor y.desc).map (fun d => d.parameters.length) = some n) (hn : As.length = n)
    (bs : List Bool) (hwc : qSel bs ws = wc) (hfst : wc2.map Prod.fst = wc.map Prod.fst) (q0 : Nat) {ci : Nat} {fs : List Value} {T : u_T} {N : Nat} (he : ws[q0]? = some (b, .inr (ci, fs))) (hc : vwCl[ci]? = some (C, T, N))
    (hst : st0 = As.reverse ++ .ref b :: rest) (hrest : (rest.map fun v => v.category).sum ≤ 8) (h2 : qMg bs wc2 ws = ws2) (hdg : decode cc pc = .ok (.invokevirtual index, 3))
    (kk : ∀ (H1 : Heap) (locs1 : List Loc), wW D A H0 ws2 H1 locs1 → W p l e R s m args below meth c H1 locs1 cells slots Q (F0 m (pc + 3) ls rest)) : W p l e R s m args below meth c H locs cells slots Q (F0 m pc ls st0) := by
  subst hwc
  have hP : va_P D vwCl (qSel bs ws) H ∧ va_D (fun _ => True) (qSel bs ws) := ⟨qSel_P w.1 bs, (qSel_D w.2.1 bs).weaken (fun _ _ _ _ => trivial)⟩
  have hF := qSel_free w.2.1 w.2.2 hA bs
  refine va_callv (va_runV (As := As) (rest := rest) M.1 (hC H.size) (cwV n M.1.2.2.2.2 hg hw hrm.1 hrm.2.1 hd hrm.2.2) ⟨qB_blind, va_recv M.2 w.1 hc he, fun U hU hW => ⟨rfl, by rw [hU], by rw [hU]; exact hP.1, va_K.moved hW.alike M.2, hP.2⟩⟩ rfl hn hl.1 hst (lv_room hrest) hdg hcs) w.2.2 (fun q _ h => hF q h) hF (fun u t H1 locs1 ht hvm hr hB hz1 hk1 hS => ?_)
  rw [ht] at hB
  obtain ⟨g1, g2⟩ := qMg_W w.1 w.2.1 bs hfst hk1 hB
  exact kk H1 locs1 (h2 ▸ ⟨g1, g2, hS⟩)
theorem qc_iS (M : qM p m c cc nL s args Ts own D tys) (w : wW D A H0 ws H locs) (hA : ∀ q : Nat, H0.size ≤ q → A q) (hl : lv_has ls nL lv) (hC : Ci l D tys y wds rm As wc z wc2) (hg : GoodIn Ts (va_wsS own index y wds)) (hw : wds = Cond.code y bytes maxL ret :: wds')
    (hrm : rm.cells = 0 ∧ rm.slots = 0 ∧ rm.frames + 1 ≤ R.frames ∧ 8 + (maxL + 11) + rm.locals ≤ R.locals) (hcs : cells ≤ R.cells ∧ slots ≤ R.slots) (n : Nat) (hd : y.cls ≠ "java/lang/invoke/MethodHandle" ∧ y.cls ≠ "java/lang/invoke/VarHandle" ∧ (parseMethodDescriptor y.desc).map (fun d => d.parameters.length) = some n) (hn : As.length = n)
    (bs : List Bool) (hwc : qSel bs ws = wc) (hfst : wc2.map Prod.fst = wc.map Prod.fst)
    (hst : st0 = As.reverse ++ rest) (hrest : (rest.map fun v => v.category).sum ≤ 8) (h2 : qMg bs wc2 ws = ws2) (hdg : decode cc pc = .ok (.invokestatic index, 3))
    (kk : ∀ (H1 : Heap) (locs1 : List Loc), wW D A H0 ws2 H1 locs1 → W p l e R s m args below meth c H1 locs1 cells slots Q (F0 m (pc + 3) ls (.int (iI z) :: rest))) : W p l e R s m args below meth c H locs cells slots Q (F0 m pc ls st0) := by
  subst hwc
  have hP : va_P D vwCl (qSel bs ws) H ∧ va_D (fun _ => True) (qSel bs ws) := ⟨qSel_P w.1 bs, (qSel_D w.2.1 bs).weaken (fun _ _ _ _ => trivial)⟩
  have hF := qSel_free w.2.1 w.2.2 hA bs
  refine va_calli (va_runS (As := As) (rest := rest) M.1 (hC H.size) (va_cwS n M.1.2.2.2.2 hg hw hrm.1 hrm.2.1 hd hrm.2.2) ⟨qB_blind, fun U hU hW => ⟨rfl, by rw [hU], by rw [hU]; exact hP.1, va_K.moved hW.alike M.2, hP.2⟩⟩ rfl hn hl.1 hst (lv_room hrest) hdg hcs) w.2.2 (fun q _ h => hF q h) hF (fun r u t H1 locs1 ht hvm hr hB hz1 hk1 hS => ?_)
  subst hr
  rw [ht] at hB
  obtain ⟨g1, g2⟩ := qMg_W w.1 w.2.1 bs hfst hk1 hB
  exact kk H1 locs1 (h2 ▸ ⟨g1, g2, hS⟩)
theorem qc_vS (M : qM p m c cc nL s args Ts own D tys) (w : wW D A H0 ws H locs) (hA : ∀ q : Nat, H0.size ≤ q → A q) (hl : lv_has ls nL lv) (hC : Cv l D tys y wds rm As wc wc2) (hg : GoodIn Ts (va_wsS own index y wds)) (hw : wds = Cond.code y bytes maxL ret :: wds')
    (hrm : rm.cells = 0 ∧ rm.slots = 0 ∧ rm.frames + 1 ≤ R.frames ∧ 8 + (maxL + 11) + rm.locals ≤ R.locals) (hcs : cells ≤ R.cells ∧ slots ≤ R.slots) (n : Nat) (hd : y.cls ≠ "java/lang/invoke/MethodHandle" ∧ y.cls ≠ "java/lang/invoke/VarHandle" ∧ (parseMethodDescriptor y.desc).map (fun d => d.parameters.length) = some n) (hn : As.length = n)
    (bs : List Bool) (hwc : qSel bs ws = wc) (hfst : wc2.map Prod.fst = wc.map Prod.fst)
    (hst : st0 = As.reverse ++ rest) (hrest : (rest.map fun v => v.category).sum ≤ 8) (h2 : qMg bs wc2 ws = ws2) (hdg : decode cc pc = .ok (.invokestatic index, 3))
    (kk : ∀ (H1 : Heap) (locs1 : List Loc), wW D A H0 ws2 H1 locs1 → W p l e R s m args below meth c H1 locs1 cells slots Q (F0 m (pc + 3) ls rest)) : W p l e R s m args below meth c H locs cells slots Q (F0 m pc ls st0) := by
  subst hwc
  have hP : va_P D vwCl (qSel bs ws) H ∧ va_D (fun _ => True) (qSel bs ws) := ⟨qSel_P w.1 bs, (qSel_D w.2.1 bs).weaken (fun _ _ _ _ => trivial)⟩
  have hF := qSel_free w.2.1 w.2.2 hA bs
  refine va_callv (va_runS (As := As) (rest := rest) M.1 (hC H.size) (va_cwS n M.1.2.2.2.2 hg hw hrm.1 hrm.2.1 hd hrm.2.2) ⟨qB_blind, fun U hU hW => ⟨rfl, by rw [hU], by rw [hU]; exact hP.1, va_K.moved hW.alike M.2, hP.2⟩⟩ rfl hn hl.1 hst (lv_room hrest) hdg hcs) w.2.2 (fun q _ h => hF q h) hF (fun u t H1 locs1 ht hvm hr hB hz1 hk1 hS => ?_)
  rw [ht] at hB
  obtain ⟨g1, g2⟩ := qMg_W w.1 w.2.1 bs hfst hk1 hB
  exact kk H1 locs1 (h2 ▸ ⟨g1, g2, hS⟩)
end QC
