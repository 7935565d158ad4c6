/-! THE CLAIM OUT OF ONE WALK OF THE LAW'S BODY. Your part is whole_start (and what it stands on); all else here is the same for every law, but numbers. -/
def R_law : String := "BeatPagesLaw"
def lw_P (b : Addr) (xs : List Int32) (args : Array Value) (s : State) : Prop := args = #[.ref b] ∧ s.IntsAt b xs ∧ xs.length ≤ 2560 ∧ (Jvm.Cond.and given_1 narrow_1).before args s = true
def lw_Q (_ : Array Value) (s : State) (o : Outcome) (t : State) : Prop := o = .returned (some (.int 1)) ∧ Framed s o t [] 601024 7293034
def lw_Z (below : List Frame) (a : Array Value) (s : State) : State → Prop := fun t => ∃ o, t.status = .running ∧ Ended t below o ∧ lw_Q a s o t
/-- the law's own end, with 1 on the stack, nothing written that was there before, its room as the claim has it -/
theorem lw_ret {p : Program} {l : Launch} {e : Env} {s : State} {m : MethodId} {below : List Frame} {meth : Method} {c : Code} {b : Nat} (hx : p.tables.exec = Jvm.exec) (hb : c.code = code) (hr : meth.sig.returnType = ret) (hlocks : meth.locks = false) {pc : Nat} {H : Heap} {ls : Array Slot} (hdg : decode code pc = .ok (.ireturn, 1)) : W p l e room_1 s m #[Value.ref b] below meth c H [] 601024 7293034 (lw_Z below #[Value.ref b] s) (F0 m pc ls [.int 1]) := by
  intro T hT X
  obtain ⟨fs, hret, hrun, hended, hW, hframe⟩ := X.leave (v := some (.int 1)) (hlocks := hlocks) (fun h => by rw [hr] at h; cases h)
  have hmeth' : T.vm.method? m = some meth := X.method'
  refine ⟨T.setFrames fs, ?_, .returned (some (.int 1)), hrun, hended, rfl, ⟨_, rfl⟩, hW, hframe⟩
  jvm_step X.here [X.here.top, hx, hb, hdg, hmeth', hr, ret, narrow_b1]
  (try refine ⟨rfl, ?_⟩); (try refine ⟨rfl, ?_⟩)
  first | (intro acts; rw [hret _ acts rfl rfl rfl]) | rw [hret _ _ rfl rfl rfl]
  exact Steps.refl _
/-- what holds at the law's entry: the machine, the code, the tables' words (any of lw_tbl by 'hts w (by decide +kernel)'), the script of L ints xs at the cell b, what the Statement gives of the start (any of its parts by flat_of_before) -/
def lw_At (p : Program) (s : State) (m : MethodId) (meth : Method) (c : Code) (b L : Nat) (xs : Nat → Int32) : Prop :=
  p.tables.exec = Jvm.exec ∧ c.code = code ∧ meth.sig.returnType = ret ∧ c.maxLocals = 7 ∧ s.vm.findClass R_law = some m.cls ∧ (∀ w ∈ lw_tbl, w.before #[Value.ref b] s = true) ∧ va_X b L xs s s.heap ∧ b < s.heap.size ∧ meth.locks = false ∧ (Jvm.Cond.and given_1 narrow_1).before #[Value.ref b] s = true
/-! THE LAW, from its entry -/
theorem law_arr {args : Array Value} {s : State} {ty : FieldType} (hty : ty = .int ∨ ty = .boolean ∨ ty = .long) (h : (Cond.arrayClass ty).before args s = true) : ∃ c : ClassId, ArrOfT s c ty ∧ va_RA s c ty := by
  obtain ⟨c, k, comp, h1, h2, h3⟩ := Cond.arrayClass_spec h
  exact ⟨c, fun n z => ⟨fun k h => (by cases h), k, h2, comp, h3⟩, by rcases hty with rfl | rfl | rfl <;> exact h1⟩
theorem law_str {args : Array Value} {s : State} {own tx : String} {k : Nat} (h1 : (Cond.stringRef own k tx).before args s = true) (h2 : (Cond.exactly (.string own k) "java/lang/String").before args s = true) : ∃ a, vk_R own k tx a s := by
  obtain ⟨a, c, cell, k9, ha, -⟩ := Cond.exactly_spec h2
  exact ⟨a, vk_R.of h1 ha⟩
set_option maxHeartbeats 4000000 in
set_option maxRecDepth 100000 in
theorem law_qE {b : Addr} {s : State} (hts : ∀ w ∈ lw_tbl, w.before #[Value.ref b] s = true) (hgv : (Jvm.Cond.and given_1 narrow_1).before #[Value.ref b] s = true) : qE s := by
  have hs := flat_of_before _ hgv
  exact ⟨⟨va_Nw.of rfl (hts (.declares (Bundle.initS "java/lang/RuntimeException")) (by decide +kernel)), va_Nw.of rfl (hts (.declares (Bundle.initS "java/lang/Exception")) (by decide +kernel)), va_Nw.of rfl (hts (.declares (Bundle.initS Bundle.tN)) (by decide +kernel))⟩,
    ⟨va_Nw.of rfl (hts (.castable eIOB eIOB) (by decide +kernel)), va_Nw.of rfl (hts (.castable eIAE eIAE) (by decide +kernel)), va_Nw.of rfl (hts (.castable eISE eISE) (by decide +kernel))⟩,
    ⟨va_Nc.of (hs (.not (.castable eIAE eIOB)) (by decide +kernel)), va_Nc.of (hs (.not (.castable eISE eIOB)) (by decide +kernel)), va_Nc.of (hs (.not (.castable eISE eIAE)) (by decide +kernel))⟩,
    law_str (hts (.stringRef RX6 120 "the song has 8 entries") (by decide +kernel)) (hs (.exactly (.string RX6 120) "java/lang/String") (by decide +kernel)),
    law_str (hts (.stringRef RX6 148 "the set list has 8 songs") (by decide +kernel)) (hs (.exactly (.string RX6 148) "java/lang/String") (by decide +kernel)),
    law_str (hts (.stringRef RX6 159 "the set list is empty, or one of its songs has no bar") (by decide +kernel)) (hs (.exactly (.string RX6 159) "java/lang/String") (by decide +kernel)),
    law_str (hts (.stringRef RX6 242 "there is none of this number") (by decide +kernel)) (hs (.exactly (.string RX6 242) "java/lang/String") (by decide +kernel)),
    law_str (hts (.stringRef RX6 247 "an argument is out of its range") (by decide +kernel)) (hs (.exactly (.string RX6 247) "java/lang/String") (by decide +kernel)),
    law_str (hts (.stringRef RX6 250 "the set is not played") (by decide +kernel)) (hs (.exactly (.string RX6 250) "java/lang/String") (by decide +kernel)),
    law_str (hts (.stringRef RX6 252 "the set is played") (by decide +kernel)) (hs (.exactly (.string RX6 252) "java/lang/String") (by decide +kernel))⟩
theorem q_newl {p : Program} {l : Launch} {e : Env} {R : Room} {s : State} {m : MethodId} {args : Array Value} {below : List Frame} {meth : Method} {c : Code} {H : Heap} {locs : List Loc} {cells slots : Nat} {Q : State → Prop} {cc : ByteArray} {nL pc : Nat} {ls : Array Slot} {rest : List Value} {Ts : List Cond} {own : String} {D : va_G} {tys : List (ClassId × FieldType)} {A : Nat → Prop} {H0 : Heap} {ws : va_W} (M : qM p m c cc nL s args Ts own D tys) (w : wW D A H0 ws H locs) (hA : ∀ q : Nat, H0.size ≤ q → A q) (harr : Cond.arrayClass .long ∈ Ts) (t0 : Nat) {cA : ClassId} (ht : tys[t0]? = some (cA, .long)) (hcells : cells + 1 ≤ R.cells) (hslots : slots + 1 ≤ R.slots) (hdg : decode cc pc = .ok (.newarray .long, 2))
    (kk : ∀ (q : Nat) (H1 : Heap), wW D A H0 (ws ++ [(q, .inl (cA, 1, .inr (.inl (fun _ => 0))))]) H1 locs → W p l e R s m args below meth c H1 locs (cells + 1) (slots + 1) Q (F0 m (pc + 2) ls (.ref q :: rest))) : W p l e R s m args below meth c H locs cells slots Q (F0 m pc ls (.int (iI 1) :: rest)) := by
  refine va_newa (atype := .long) (N' := 1) (a0 := (1, .inr (.inl (fun _ => 0)))) (ty := .long) M.1.1 M.1.2.1 (M.1.2.2.2.2 _ harr) rfl M.2 w.1 w.2.1 w.2.2 hA (fun cA => ?_) ?_ ?_ (by decide) hcells hslots hdg (fun q cA2 H1 g0 g1 g2 g3 => ?_)
  · rw [vp_cell_l]; rfl
  · rw [iI_0, iI_lt (by omega) (by omega)]
    omega
  · decide +kernel
  · have e : cA2 = cA := by
      have h1 := (g0.2 tys.length (cA2, .long) (by rw [List.getElem?_append_right (Nat.le_refl _), Nat.sub_self]; rfl)).2
      have h2 := (M.2.2 t0 _ ht).2
      exact Option.some.inj (Eq.trans (Eq.symm h1) h2)
    subst e
    exact kk q H1 ⟨g1, g2, g3⟩
set_option maxHeartbeats 4000000 in
set_option maxRecDepth 100000 in
theorem whole_start {p : Program} {e : Env} {s : State} {m : MethodId} {below : List Frame} {meth : Method} {c : Code} (l : Launch) (hflags : l.flags = flags0) {b L : Nat} {xs : Nat → Int32} (hL : L ≤ 2560) (C0 : lw_At p s m meth c b L xs) : W p l e room_1 s m #[Value.ref b] below meth c s.heap [] 0 0 (lw_Z below #[Value.ref b] s) (entryFrame m ([Value.ref b] : List Value).toArray 7) := by
  obtain ⟨hx, hb, hr, hml, hown, hts, hX, hbl, hlocks, hgv⟩ := id C0
  have hfl : l.stackTraces = false := by
    unfold Launch.stackTraces
    rw [hflags]
    decide +kernel
  have hs := flat_of_before _ hgv
  have hA : ∀ q : Nat, s.heap.size ≤ q → (fun q : Nat => s.heap.size ≤ q) q := fun _ h => h
  have hbA : ¬ (fun q : Nat => s.heap.size ≤ q) b := Nat.not_le.mpr hbl
  obtain ⟨c0, i0, hK0⟩ := u_known (C := RX0) (T := TX0) (N := 3) (n := 3) hts inX0 (hts (.instantiable RX0 3) (by decide +kernel))
  obtain ⟨c1, i1, hK1⟩ := u_known (C := RX1) (T := TX1) (N := 6) (n := 6) hts inX1 (hts (.instantiable RX1 6) (by decide +kernel))
  obtain ⟨c2, i2, hK2⟩ := u_known (C := RX2) (T := TX2) (N := 6) (n := 6) hts inX2 (hts (.instantiable RX2 6) (by decide +kernel))
  obtain ⟨c3, i3, hK3⟩ := u_known (C := RX3) (T := TX3) (N := 1) (n := 1) hts inX3 (hts (.instantiable RX3 1) (by decide +kernel))
  obtain ⟨c4, i4, hK4⟩ := u_known (C := RX4) (T := TX4) (N := 7) (n := 7) hts inX4 (hts (.instantiable RX4 7) (by decide +kernel))
  obtain ⟨c5, i5, hK5⟩ := u_known (C := RX5) (T := TX5) (N := 11) (n := 11) hts inX5 (hts (.instantiable RX5 11) (by decide +kernel))
  obtain ⟨c6, i6, hK6⟩ := u_known (C := RX6) (T := TX6) (N := 11) (n := 11) hts inX6 (hts (.instantiable RX6 11) (by decide +kernel))
  obtain ⟨c7, i7, hK7⟩ := u_known (C := RX7) (T := TX7) (N := 31) (n := 31) hts inX7 (hts (.instantiable RX7 31) (by decide +kernel))
  obtain ⟨D, hKc⟩ : ∃ D : va_G, ∀ (k : Nat) (q : vw_C), vwCl[k]? = some q → u_Kn s q.1 q.2.1 q.2.2 (D.1 k) (D.2 k) := by
    refine ⟨(fun k => ([c0, c1, c2, c3, c4, c5, c6, c7] : List ClassId).getD k c0, fun k => ([i0, i1, i2, i3, i4, i5, i6, i7] : List (Nat → Nat)).getD k i0), ?_⟩
    intro k q hq
    match k, hq with
    | 0, hq => cases hq; exact hK0
    | 1, hq => cases hq; exact hK1
    | 2, hq => cases hq; exact hK2
    | 3, hq => cases hq; exact hK3
    | 4, hq => cases hq; exact hK4
    | 5, hq => cases hq; exact hK5
    | 6, hq => cases hq; exact hK6
    | 7, hq => cases hq; exact hK7
    | k + 8, hq => cases hq
  obtain ⟨cI, hI1, hI2⟩ := law_arr (Or.inl rfl) (hts (.arrayClass .int) (by decide +kernel))
  obtain ⟨cZ, hZ1, hZ2⟩ := law_arr (Or.inr (Or.inl rfl)) (hts (.arrayClass .boolean) (by decide +kernel))
  obtain ⟨cJ, hJ1, hJ2⟩ := law_arr (Or.inr (Or.inr rfl)) (hts (.arrayClass .long) (by decide +kernel))
  have hK : va_K D vwCl (tY cI cZ cJ) s := by
    refine ⟨hKc, fun k q hq => ?_⟩
    match k, hq with
    | 0, hq => cases hq; exact ⟨hI1, hI2⟩
    | 1, hq => cases hq; exact ⟨hZ1, hZ2⟩
    | 2, hq => cases hq; exact ⟨hJ1, hJ2⟩
    | k + 3, hq => cases hq
  have M : qM p m c code 7 s #[Value.ref b] wsL_law RL D (tY cI cZ cJ) := ⟨⟨hx, hb, hml, hown, fun w h => hts w (wsL_law_in w h)⟩, hK⟩
  have hT : qT (fun q : Nat => s.heap.size ≤ q) s s.heap := ⟨vx_Zqof (hts (.laysStatic Bundle.tN "UNASSIGNED_STACK" Bundle.steD) (by decide +kernel)) (hts (.initialized Bundle.tN) (by decide +kernel)) (hs (.isRef (.static Bundle.tN "UNASSIGNED_STACK" Bundle.steD)) (by decide +kernel)) (fun a h => Nat.not_le.mpr h),
    vx_Zqof (hts (.laysStatic Bundle.tN "SUPPRESSED_SENTINEL" Bundle.listD) (by decide +kernel)) (hts (.initialized Bundle.tN) (by decide +kernel)) (hs (.isRef (.static Bundle.tN "SUPPRESSED_SENTINEL" Bundle.listD)) (by decide +kernel)) (fun a h => Nat.not_le.mpr h), law_qE hts hgv⟩
  have hEN : eN s := va_Nw.of rfl (hts (.methodLinkNest RX6 23 yX2_init RX6) (by decide +kernel))
  have C : lwC l p s m c D cI cZ cJ (fun q : Nat => s.heap.size ≤ q) b L xs := ⟨hfl, M, hA, hT, hX, hbl, hbA, hL⟩
  have w : wW D (fun q : Nat => s.heap.size ≤ q) s.heap [] s.heap [] := ⟨fun k q h => (by cases h), ⟨fun i j x y h => (by cases h), fun k q h => (by cases h)⟩, va_S.rf⟩
  have hl := lv_entry ([.ref b]) (n := 7) (Nat.le_of_ble_eq_true rfl)
  rw [lg_entry_eq]
  generalize (lg_sl ([.ref b]) ++ List.replicate (7 - (lg_sl ([.ref b])).length) Slot.unset).toArray = ls at hl ⊢
  have hl : lv_has ls 7 [(0, .ref b)] := hl
  refine q_new (C := RX6) (T := TX6) (N := 11) (ci := 6) (fs := [.null, .null, .null, .null, .null, .null, .null, .int (iI 0), .int (iI 0), .int (iI 0), .int (iI 0)]) M w hA inlX6 tyX6 tyX6_ok (by decide +kernel) (by decide +kernel) (by decide +kernel) rfl dv6 (by decide) (by decide) dL_law_0 (fun q6 H w => ?_)
  have w : wW D (fun q : Nat => s.heap.size ≤ q) s.heap ([] ++ [(q6, .inr (6, [.null, .null, .null, .null, .null, .null, .null, .int (iI 0), .int (iI 0), .int (iI 0), .int (iI 0)]))]) H [] := w
  refine q_dup M dL_law_3 rfl ?_
  refine q_init (wr := []) (As := []) (rest := [.ref q6]) M w hA hl (k_init6 l D cI cZ cJ q6) eN_ok hEN gL_law_X6_init rfl (by decide +kernel) (by decide +kernel) (by decide +kernel) rfl ⟨by decide, by decide⟩ ⟨by decide, by decide⟩ 0 (by decide +kernel) rfl rfl (Nat.le_of_ble_eq_true rfl) dL_law_4 (fun ws9 H locs sh w => ?_)
  obtain ⟨a, ha0, rfl⟩ := sh
  refine q_asn (lv' := [(1, .ref q6), (0, .ref b)]) M dL_law_7 rfl hl (by decide) rfl (fun ls hl => ?_)
  refine q_new (C := RX7) (T := TX7) (N := 31) (ci := 7) (fs := [.int (iI 0), .null, .null, .null, .null, .null, .null, .null, .null, .null, .null, .null, .null, .null, .int (iI 0), .null, .null, .null, .null, .null, .null, .int (iI 0), .int (iI 0), .int (iI 0), .int (iI 0), .null, .int (iI 0), .int (iI 0), .int (iI 0), .int (iI 0), .int (iI 0)]) M w hA inlX7 tyX7 tyX7_ok (by decide +kernel) (by decide +kernel) (by decide +kernel) rfl dv7 (by decide) (by decide) dL_law_8 (fun q7 H w => ?_)
  have w : wW D (fun q : Nat => s.heap.size ≤ q) s.heap (WAll cI a mu0 ++ [(q7, .inr (7, [.int (iI 0), .null, .null, .null, .null, .null, .null, .null, .null, .null, .null, .null, .null, .null, .int (iI 0), .null, .null, .null, .null, .null, .null, .int (iI 0), .int (iI 0), .int (iI 0), .int (iI 0), .null, .int (iI 0), .int (iI 0), .int (iI 0), .int (iI 0), .int (iI 0)]))]) H _ := w
  refine q_dup M dL_law_11 rfl ?_
  refine q_init (wr := WAll cI a mu0) (As := []) (rest := [.ref q7]) M w hA hl (m_init l D cI cZ cJ q7) eT_ok trivial gL_law_X7_init rfl (by decide +kernel) (by decide +kernel) (by decide +kernel) rfl ⟨by decide, by decide⟩ ⟨by decide, by decide⟩ 0 (by decide +kernel) rfl rfl (Nat.le_of_ble_eq_true rfl) dL_law_12 (fun ws9 H locs sh w => ?_)
  obtain ⟨bb, hb0, rfl⟩ := sh
  refine q_asn (lv' := [(2, .ref q7), (1, .ref q6), (0, .ref b)]) M dL_law_15 rfl hl (by decide) rfl (fun ls hl => ?_)
  refine q_ic M dL_law_16 ?_
  refine q_newl M w hA (by decide +kernel) 2 rfl (by decide) (by decide) dL_law_17 (fun o H w => ?_)
  have w : wW D (fun q : Nat => s.heap.size ≤ q) s.heap (WL cI cJ a o (fun _ => 0) mu0 ++ WMod cI cZ bb nu0) H _ := wW_perm w [71, 0, 1, 2, 3, 4, 5, 6, 7, 8, 9, 10, 11, 12, 13, 14, 15, 16, 17, 18, 19, 20, 21, 22, 23, 24, 25, 26, 27, 28, 29, 30, 31, 32, 33, 34, 35, 36, 37, 38, 39, 40, 41, 42, 43, 44, 45, 46, 47, 48, 49, 50, 51, 52, 53, 54, 55, 56, 57, 58, 59, 60, 61, 62, 63, 64, 65, 66, 67, 68, 69, 70] (by decide +kernel) rfl
  refine q_asn (lv' := [(3, .ref o), (2, .ref q7), (1, .ref q6), (0, .ref b)]) M dL_law_19 rfl hl (by decide) rfl (fun ls hl => ?_)
  refine q_ic M dL_law_20 ?_
  refine q_is (lv' := [(4, .int (iI 0)), (3, .ref o), (2, .ref q7), (1, .ref q6), (0, .ref b)]) M dL_law_21 hl (by decide) rfl (fun ls hl => ?_)
  refine W.widen (k := 200 + 0) (n := 60000 + 6 * 0) (by decide) (by decide) ?_
  refine law_loop C (fun H locs ls k n hk hn hS => ?_) (L + 1) 0 (by omega) (Nat.zero_le _) (fun _ => 0) mu0 nu0 H _ ls Rel_init w ?_
  · refine lv_iconst (v := 1) hx hb dL_law_1474 (by decide) ?_
    refine va_forget (fun q hq => hS.2.2 q hq) ?_
    refine W.widen (k := 601024) (n := 7293034) hk hn ?_
    exact lw_ret hx hb hr hlocks dL_law_1475
  · show lv_has ls 7 [(4, .int (iI 0)), (0, .ref b), (1, .ref (a 0)), (2, .ref (bb 0)), (3, .ref o)]
    rw [ha0, hb0]
    exact lv_sub hl [0, 4, 3, 2, 1] rfl
