/-! THE LAW: cell, which reads the script -/
def xZ (xs : Nat → Int32) (z : Int) : Int := (xs z.toNat).toInt
theorem xZ_r (xs : Nat → Int32) (z : Int) : -2147483648 ≤ xZ xs z ∧ xZ xs z < 2147483648 := ⟨Int32.le_toInt _, Int32.toInt_lt _⟩
section QW
variable {p : Program} {l : Launch} {e : Env} {R : Room} {s : State} {m : MethodId} {args : Array Value} {below : List Frame} {meth : Method} {c : Code} {H : Heap} {locs : List Loc} {cells slots : Nat} {Q : State → Prop} {cc bytes : ByteArray} {nL maxL index pc : Nat} {ls : Array Slot} {rest As st0 : List Value} {Ts wds wds' : List Cond} {own : String} {D : va_G} {tys : List (ClassId × FieldType)} {A : Nat → Prop} {H0 : Heap} {ws wc wc2 ws2 : va_W} {bs L : Nat} {xs : Nat → Int32} {y : MethodName} {rm : Room} {k : Int} {ret : Option FieldType} {lv : List (Nat × Value)}
theorem q_sld (M : qM p m c cc nL s args Ts own D tys) (w : wW D A H0 ws H locs) (hX : va_X bs L xs s H0) (hbl : bs < H0.size) (hbA : ¬ A bs) (hL : L ≤ 260) {z : Int} (hz : 0 ≤ z ∧ z < (L : Int)) (hdg : decode cc pc = .ok (.iaload, 1)) (kk : W p l e R s m args below meth c H locs cells slots Q (F0 m (pc + 1) ls (.int (iI (xZ xs z)) :: rest))) : W p l e R s m args below meth c H locs cells slots Q (F0 m pc ls (.int (iI z) :: .ref bs :: rest)) := by
  refine va_sld M.1.1 M.1.2.1 hX hbl hbA w.2.2 (iI_in ⟨hz.1, hz.2⟩ (by omega)) hdg ?_
  have h1 := iI_cl (z := z) (by omega)
  rw [show (iI z).toNatClampNeg = z.toNat by omega]
  unfold xZ at kk
  rw [iI_re] at kk
  exact kk
theorem q_slen (M : qM p m c cc nL s args Ts own D tys) (w : wW D A H0 ws H locs) (hX : va_X bs L xs s H0) (hbl : bs < H0.size) (hbA : ¬ A bs) (hdg : decode cc pc = .ok (.arraylength, 1)) (kk : W p l e R s m args below meth c H locs cells slots Q (F0 m (pc + 1) ls (.int (iI (L : Int)) :: rest))) : W p l e R s m args below meth c H locs cells slots Q (F0 m pc ls (.ref bs :: rest)) := by
  refine va_slen M.1.1 M.1.2.1 hX hbl hbA w.2.2 hdg ?_
  rw [show Int32.ofNat L = iI (L : Int) from Int32.ofInt_eq_ofNat.symm]
  exact kk
end QW
def Kx (l : Launch) (D : va_G) (tys : List (ClassId × FieldType)) (bs L : Nat) (xs : Nat → Int32) (k : Int) : Prop :=
  ∀ sz : Nat, Met l yL_cell wsL_cell rmL_cell (va_Pc [.ref bs, .int (iI k)] (fun U => qB D tys [] sz U ∧ va_X bs L xs U U.heap ∧ bs < sz)) (va_Qi (fun (r : Int32) (z : Int) => r = iI z ∧ -2147483648 ≤ z ∧ z < 2147483648) (fun _ t => va_P D vwCl [] t.heap) (va_A [] sz)) 0 0 (va_A [] sz)
theorem Kx_blind {D : va_G} {tys : List (ClassId × FieldType)} {bs L sz : Nat} {xs : Nat → Int32} {av : List Value} : FrameBlind (va_Pc av (fun U => qB D tys [] sz U ∧ va_X bs L xs U U.heap ∧ bs < sz)) := fun a U g mk q => by
  obtain ⟨q0, ⟨q1, qP, qK, qD⟩, qX, qb⟩ := q
  exact ⟨q0, ⟨q1, qP, va_K.moved (u := U) (U := U.calling g mk a) (Vm.Alike.refl U.vm) qK, qD⟩, va_X.moved (u := U) (U := U.calling g mk a) (Vm.Alike.refl U.vm) qX, qb⟩
section QW2
variable {p : Program} {l : Launch} {e : Env} {R : Room} {s : State} {m : MethodId} {args : Array Value} {below : List Frame} {meth : Method} {c : Code} {H : Heap} {locs : List Loc} {cells slots : Nat} {Q : State → Prop} {cc : ByteArray} {nL index pc : Nat} {ls : Array Slot} {rest : List Value} {Ts : List Cond} {own : String} {D : va_G} {tys : List (ClassId × FieldType)} {A : Nat → Prop} {ws : va_W} {bs L : Nat} {xs : Nat → Int32} {k : Int} {lv : List (Nat × Value)}
theorem qx_cell (M : qM p m c cc nL s args Ts own D tys) (w : wW D A s.heap ws H locs) (hA : ∀ q : Nat, s.heap.size ≤ q → A q) (hX : va_X bs L xs s s.heap) (hbl : bs < s.heap.size) (hbA : ¬ A bs) (hl : lv_has ls nL lv) (hC : Kx l D tys bs L xs k) (hg : GoodIn Ts (va_wsS own index yL_cell wsL_cell))
    (hrm : 0 + 1 ≤ R.frames ∧ 8 + (2 + 11) + 0 ≤ R.locals) (hcs : cells ≤ R.cells ∧ slots ≤ R.slots)
    (hrest : (rest.map fun v => v.category).sum ≤ 8) (hdg : decode cc pc = .ok (.invokestatic index, 3))
    (kk : ∀ (z : Int), -2147483648 ≤ z ∧ z < 2147483648 → ∀ (H1 : Heap) (locs1 : List Loc), wW D A s.heap ws H1 locs1 → W p l e R s m args below meth c H1 locs1 cells slots Q (F0 m (pc + 3) ls (.int (iI z) :: rest))) : W p l e R s m args below meth c H locs cells slots Q (F0 m pc ls (.int (iI k) :: .ref bs :: rest)) := by
  have hP : va_P D vwCl (qSel [] ws) H ∧ va_D (fun _ => True) (qSel [] ws) := ⟨qSel_P w.1 [], (qSel_D w.2.1 []).weaken (fun _ _ _ _ => trivial)⟩
  have hF := qSel_free w.2.1 w.2.2 hA []
  have hXH : va_X bs L xs s H := hX.kept (w.2.2.2.1 bs hbl hbA)
  have hbH : bs < H.size := Nat.lt_of_lt_of_le hbl w.2.2.1
  refine va_calli (va_runS (As := [.ref bs, .int (iI k)]) (rest := rest) M.1 (hC H.size) (va_cwS 2 M.1.2.2.2.2 hg rfl rfl rfl (by decide +kernel) hrm) ⟨Kx_blind, fun U hU hW => ⟨rfl, ⟨by rw [hU], by rw [hU]; exact hP.1, va_K.moved hW.alike M.2, hP.2⟩, by rw [hU]; exact va_X.moved hW.alike hXH, hbH⟩⟩ rfl rfl hl.1 rfl (lv_room hrest) hdg hcs) w.2.2 (fun q _ h => hF q h) hF (fun r u t H1 locs1 ht hvm hr hB hz1 hk1 hS => ?_)
  obtain ⟨hr1, hr2⟩ := hr
  subst hr1
  rw [ht] at hB
  obtain ⟨g1, g2⟩ := qMg_W (wc2 := []) w.1 w.2.1 [] rfl hk1 hB
  exact kk u hr2 H1 locs1 ⟨g1, g2, hS⟩
end QW2
set_option maxHeartbeats 4000000 in
theorem k_cell (l : Launch) (D : va_G) (tys : List (ClassId × FieldType)) (bs L : Nat) (xs : Nat → Int32) (k : Int) (hL : L ≤ 260) (hk : 0 ≤ k ∧ k < 90) : Kx l D tys bs L xs k := by
  intro sz
  refine Met.ofW (cc := cL_cell) (maxL := 2) (ret := some .int) (by decide +kernel) rfl ?_
  intro p e s m args below meth c s₁ B hml hv
  obtain ⟨rfl, ⟨hsz, hP, hK, hD0⟩, hX, hb⟩ := hv
  have hlocks := B.notSynchronized
  subst hsz
  rw [lg_entry_eq]
  have hl := lv_entry [Value.ref bs, Value.int (iI k)] (n := 2) (Nat.le_of_ble_eq_true rfl)
  generalize (lg_sl ([Value.ref bs, Value.int (iI k)]) ++ List.replicate (2 - (lg_sl ([Value.ref bs, Value.int (iI k)])).length) Slot.unset).toArray = ls at hl ⊢
  have M : qM p m c cL_cell 2 s [Value.ref bs, Value.int (iI k)].toArray wsL_cell RL D tys := ⟨⟨B.exec, B.bytes, hml, findClass_of_methodNamed B.named, atoms_spec (ws := wsL_cell) B.pre⟩, hK⟩
  have w : wW D (va_A [] s.heap.size) s.heap [] s.heap [] := ⟨hP, hD0.self, va_S.rf⟩
  have hl : lv_has ls 2 [(0, .ref bs), (1, .int (iI k))] := hl
  have hbA : ¬ va_A [] s.heap.size bs := fun q => by
    rcases q with ⟨j, e, h⟩ | h
    · cases h
    · omega
  have kret : ∀ (pc : Nat) (ls1 : Array Slot) (H1 : Heap) (locs1 : List Loc) (z1 : Int), decode cL_cell pc = .ok (.ireturn, 1) → wW D (va_A [] s.heap.size) s.heap [] H1 locs1 → -2147483648 ≤ z1 ∧ z1 < 2147483648 → W p l e rmL_cell s m [Value.ref bs, Value.int (iI k)].toArray below meth c H1 locs1 0 0 (MQ below (va_Qi (fun (r : Int32) (z : Int) => r = iI z ∧ -2147483648 ≤ z ∧ z < 2147483648) (fun _ t => va_P D vwCl [] t.heap) (va_A [] s.heap.size)) [Value.ref bs, Value.int (iI k)].toArray s 0 0 (va_A [] s.heap.size)) (F0 m pc ls1 [.int (iI z1)]) :=
    fun pc ls1 H1 locs1 z1 hdg w1 hz => W.iret B.exec B.bytes B.returns (fun t ht _ => ⟨⟨_, z1, rfl, ⟨rfl, hz⟩, by show va_P D vwCl [] t.heap; rw [ht]; exact w1.1⟩, w1.2.2.F ht⟩) w1.2.2.2.2 hdg
  refine q_iln M dL_cell_0 (lv_at hl 1 rfl) ?_
  refine q_aln M dL_cell_1 (lv_at hl 0 rfl) ?_
  refine q_slen M w hX hb hbA dL_cell_2 ?_
  refine q_icmp_ge (tgt := 12) M dL_cell_3 (by decide) (by omega) (fun c3 => ?_) (fun c3 => ?_)
  · refine q_ldc (n := 54121) M (by decide +kernel) dL_cell_12 ?_
    refine q_iln M dL_cell_14 (lv_at hl 1 rfl) ?_
    refine q_bp M dL_cell_15 (by decide +kernel) ?_
    refine q_add M dL_cell_17 ?_
    refine q_mul M dL_cell_18 ?_
    refine q_ldc (n := 1863469) M (by decide +kernel) dL_cell_19 ?_
    refine q_add M dL_cell_21 ?_
    exact kret _ _ _ _ _ dL_cell_22 w (by omega)
  · refine q_aln M dL_cell_6 (lv_at hl 0 rfl) ?_
    refine q_iln M dL_cell_7 (lv_at hl 1 rfl) ?_
    refine q_sld (z := k) M w hX hb hbA hL (by omega) dL_cell_8 ?_
    refine q_go (tgt := 22) M dL_cell_9 (by decide) ?_
    exact kret _ _ _ _ _ dL_cell_22 w (xZ_r xs k)
