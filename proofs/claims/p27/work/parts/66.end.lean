/-! THE CLAIM OUT OF ONE WALK OF THE LAW'S BODY. Your part is whole_start (and what it stands on); all else here is the same for every law, but numbers. -/
def R_law : String := "BeatPagesLaw"
def lw_P (b : Addr) (xs : List Int32) (args : Array Value) (s : State) : Prop := args = #[.ref b] ∧ s.IntsAt b xs ∧ xs.length ≤ 260 ∧ (Jvm.Cond.and given_1 narrow_1).before args s = true
def lw_Q (_ : Array Value) (s : State) (o : Outcome) (t : State) : Prop := o = .returned (some (.int 1)) ∧ Framed s o t [] 600104 7301314
def lw_Z (below : List Frame) (a : Array Value) (s : State) : State → Prop := fun t => ∃ o, t.status = .running ∧ Ended t below o ∧ lw_Q a s o t
/-- the law's own end, with 1 on the stack, nothing written that was there before, its room as the claim has it -/
theorem lw_ret {p : Program} {l : Launch} {e : Env} {s : State} {m : MethodId} {below : List Frame} {meth : Method} {c : Code} {b : Nat} (hx : p.tables.exec = Jvm.exec) (hb : c.code = code) (hr : meth.sig.returnType = ret) (hlocks : meth.locks = false) {pc : Nat} {H : Heap} {ls : Array Slot} (hdg : decode code pc = .ok (.ireturn, 1)) : W p l e room_1 s m #[Value.ref b] below meth c H [] 600104 7301314 (lw_Z below #[Value.ref b] s) (F0 m pc ls [.int 1]) := by
  intro T hT X
  obtain ⟨fs, hret, hrun, hended, hW, hframe⟩ := X.leave (v := some (.int 1)) (hlocks := hlocks) (fun h => by rw [hr] at h; cases h)
  have hmeth' : T.vm.method? m = some meth := X.method'
  refine ⟨T.setFrames fs, ?_, .returned (some (.int 1)), hrun, hended, rfl, ⟨_, rfl⟩, hW, hframe⟩
  jvm_step X.here [X.here.top, hx, hb, hdg, hmeth', hr, ret, narrow_b1]
  (try refine ⟨rfl, ?_⟩); (try refine ⟨rfl, ?_⟩)
  first | (intro acts; rw [hret _ acts rfl rfl rfl]) | rw [hret _ _ rfl rfl rfl]
  exact Steps.refl _
/-- what holds at the law's entry: the machine, the code, the tables' words (any of lw_tbl by 'hts w (by decide +kernel)'), the script of L ints xs at the cell b, what the Statement gives of the start (any of its parts by flat_of_before) -/
def lw_At (p : Program) (s : State) (m : MethodId) (meth : Method) (c : Code) (b L : Nat) (xs : Nat → Int32) : Prop :=
  p.tables.exec = Jvm.exec ∧ c.code = code ∧ meth.sig.returnType = ret ∧ c.maxLocals = 18 ∧ s.vm.findClass R_law = some m.cls ∧ (∀ w ∈ lw_tbl, w.before #[Value.ref b] s = true) ∧ va_X b L xs s s.heap ∧ b < s.heap.size ∧ meth.locks = false ∧ (Jvm.Cond.and given_1 narrow_1).before #[Value.ref b] s = true
/-! THE LAW, from its entry -/
theorem wW_sw {D : va_G} {A : Nat → Prop} {H0 H : Heap} {locs : List Loc} {ws1 ws2 : va_W} (w : wW D A H0 (ws1 ++ ws2) H locs) : wW D A H0 (ws2 ++ ws1) H locs := by
  have key : ∀ (k : Nat) (q : Nat × va_E), (ws2 ++ ws1)[k]? = some q → (ws1 ++ ws2)[if k < ws2.length then ws1.length + k else k - ws2.length]? = some q := by
    intro k q hk
    by_cases h : k < ws2.length
    · rw [List.getElem?_append_left h] at hk
      rw [if_pos h, List.getElem?_append_right (by omega), show ws1.length + k - ws1.length = k by omega]
      exact hk
    · rw [List.getElem?_append_right (by omega)] at hk
      rw [if_neg h, List.getElem?_append_left (List.getElem?_eq_some_iff.mp hk).1]
      exact hk
  have len : ∀ (k : Nat) (q : Nat × va_E), (ws2 ++ ws1)[k]? = some q → k < ws2.length + ws1.length := by
    intro k q hk
    have h := (List.getElem?_eq_some_iff.mp hk).1
    rw [List.length_append] at h
    exact h
  refine ⟨fun k q hk => w.1 _ q (key k q hk), ⟨fun i j x y hi hj hxy => ?_, fun k q hk => w.2.1.2 _ q (key k q hk)⟩, w.2.2⟩
  have e := w.2.1.1 _ _ x y (key i x hi) (key j y hj) hxy
  have li := len i x hi
  have lj := len j y hj
  by_cases h1 : i < ws2.length
  · by_cases h2 : j < ws2.length
    · rw [if_pos h1, if_pos h2] at e; omega
    · rw [if_pos h1, if_neg h2] at e; omega
  · by_cases h2 : j < ws2.length
    · rw [if_neg h1, if_pos h2] at e; omega
    · rw [if_neg h1, if_neg h2] at e; omega
theorem law_arr {args : Array Value} {s : State} (h : (Cond.arrayClass .int).before args s = true) : ∃ c : ClassId, ArrOfT s c .int ∧ va_RA s c .int := by
  obtain ⟨c, k, comp, h1, h2, h3⟩ := Cond.arrayClass_spec h
  exact ⟨c, fun n z => ⟨fun k h => (by cases h), k, h2, comp, h3⟩, h1⟩
theorem law_str {args : Array Value} {s : State} {own tx : String} {k : Nat} (h1 : (Cond.stringRef own k tx).before args s = true) (h2 : (Cond.exactly (.string own k) "java/lang/String").before args s = true) : ∃ a, vk_R own k tx a s := by
  obtain ⟨a, c, cell, k9, ha, -⟩ := Cond.exactly_spec h2
  exact ⟨a, vk_R.of h1 ha⟩
set_option maxHeartbeats 4000000 in
set_option maxRecDepth 100000 in
theorem law_qE {b : Addr} {s : State} (hts : ∀ w ∈ lw_tbl, w.before #[Value.ref b] s = true) (hgv : (Jvm.Cond.and given_1 narrow_1).before #[Value.ref b] s = true) : qE s := by
  have hs := flat_of_before _ hgv
  exact ⟨⟨va_Nw.of rfl (hts (.declares (Bundle.initS "java/lang/RuntimeException")) (by decide +kernel)), va_Nw.of rfl (hts (.declares (Bundle.initS "java/lang/Exception")) (by decide +kernel)), va_Nw.of rfl (hts (.declares (Bundle.initS Bundle.tN)) (by decide +kernel))⟩,
    ⟨va_Nw.of rfl (hts (.castable eIOB eIOB) (by decide +kernel)), va_Nw.of rfl (hts (.castable eIAE eIAE) (by decide +kernel)), va_Nw.of rfl (hts (.castable eISE eISE) (by decide +kernel))⟩,
    ⟨va_Nc.of (hs (.not (.castable eIAE eISE)) (by decide +kernel)), va_Nc.of (hs (.not (.castable eIOB eISE)) (by decide +kernel)), va_Nc.of (hs (.not (.castable eIOB eISE)) (by decide +kernel))⟩,
    law_str (hts (.stringRef RX6 120 "the song has 8 entries") (by decide +kernel)) (hs (.exactly (.string RX6 120) "java/lang/String") (by decide +kernel)),
    law_str (hts (.stringRef RX6 148 "the set list has 8 songs") (by decide +kernel)) (hs (.exactly (.string RX6 148) "java/lang/String") (by decide +kernel)),
    law_str (hts (.stringRef RX6 159 "the set list is empty, or one of its songs has no bar") (by decide +kernel)) (hs (.exactly (.string RX6 159) "java/lang/String") (by decide +kernel)),
    law_str (hts (.stringRef RX6 242 "there is none of this number") (by decide +kernel)) (hs (.exactly (.string RX6 242) "java/lang/String") (by decide +kernel)),
    law_str (hts (.stringRef RX6 247 "an argument is out of its range") (by decide +kernel)) (hs (.exactly (.string RX6 247) "java/lang/String") (by decide +kernel)),
    law_str (hts (.stringRef RX6 250 "the set is not played") (by decide +kernel)) (hs (.exactly (.string RX6 250) "java/lang/String") (by decide +kernel)),
    law_str (hts (.stringRef RX6 252 "the set is played") (by decide +kernel)) (hs (.exactly (.string RX6 252) "java/lang/String") (by decide +kernel))⟩
set_option maxHeartbeats 4000000 in
set_option maxRecDepth 100000 in
theorem whole_start {p : Program} {e : Env} {s : State} {m : MethodId} {below : List Frame} {meth : Method} {c : Code} (l : Launch) (hflags : l.flags = flags0) {b L : Nat} {xs : Nat → Int32} (hL : L ≤ 260) (C0 : lw_At p s m meth c b L xs) : W p l e room_1 s m #[Value.ref b] below meth c s.heap [] 0 0 (lw_Z below #[Value.ref b] s) (entryFrame m ([Value.ref b] : List Value).toArray 18) := by
  obtain ⟨hx, hb, hr, hml, hown, hts, hX, hbl, hlocks, hgv⟩ := id C0
  have hfl : l.stackTraces = false := by
    unfold Launch.stackTraces
    rw [hflags]
    decide +kernel
  have hs := flat_of_before _ hgv
  have hA : ∀ q : Nat, s.heap.size ≤ q → (fun q : Nat => s.heap.size ≤ q) q := fun _ h => h
  have hbA : ¬ (fun q : Nat => s.heap.size ≤ q) b := Nat.not_le.mpr hbl
  obtain ⟨c0, i0, hK0⟩ := u_known (C := RX0) (T := TX0) (N := 3) (n := 3) hts inX0 (hts (.instantiable RX0 3) (by decide +kernel))
  obtain ⟨c1, i1, hK1⟩ := u_known (C := RX1) (T := TX1) (N := 6) (n := 6) hts inX1 (hts (.instantiable RX1 6) (by decide +kernel))
  obtain ⟨c2, i2, hK2⟩ := u_known (C := RX2) (T := TX2) (N := 6) (n := 6) hts inX2 (hts (.instantiable RX2 6) (by decide +kernel))
  obtain ⟨c3, i3, hK3⟩ := u_known (C := RX3) (T := TX3) (N := 1) (n := 1) hts inX3 (hts (.instantiable RX3 1) (by decide +kernel))
  obtain ⟨c4, i4, hK4⟩ := u_known (C := RX4) (T := TX4) (N := 7) (n := 7) hts inX4 (hts (.instantiable RX4 7) (by decide +kernel))
  obtain ⟨c5, i5, hK5⟩ := u_known (C := RX5) (T := TX5) (N := 11) (n := 11) hts inX5 (hts (.instantiable RX5 11) (by decide +kernel))
  obtain ⟨c6, i6, hK6⟩ := u_known (C := RX6) (T := TX6) (N := 11) (n := 11) hts inX6 (hts (.instantiable RX6 11) (by decide +kernel))
  obtain ⟨D, hKc⟩ : ∃ D : va_G, ∀ (k : Nat) (q : vw_C), vwCl[k]? = some q → u_Kn s q.1 q.2.1 q.2.2 (D.1 k) (D.2 k) := by
    refine ⟨(fun k => ([c0, c1, c2, c3, c4, c5, c6] : List ClassId).getD k c0, fun k => ([i0, i1, i2, i3, i4, i5, i6] : List (Nat → Nat)).getD k i0), ?_⟩
    intro k q hq
    match k, hq with
    | 0, hq => cases hq; exact hK0
    | 1, hq => cases hq; exact hK1
    | 2, hq => cases hq; exact hK2
    | 3, hq => cases hq; exact hK3
    | 4, hq => cases hq; exact hK4
    | 5, hq => cases hq; exact hK5
    | 6, hq => cases hq; exact hK6
    | k + 7, hq => cases hq
  obtain ⟨cI, hI1, hI2⟩ := law_arr (hts (.arrayClass .int) (by decide +kernel))
  have hK : va_K D vwCl (tY cI cI cI) s := by
    refine ⟨hKc, fun k q hq => ?_⟩
    match k, hq with
    | 0, hq => cases hq; exact ⟨hI1, hI2⟩
    | k + 1, hq => cases hq
  have M : qM p m c code 18 s #[Value.ref b] wsL_law RL D (tY cI cI cI) := ⟨⟨hx, hb, hml, hown, fun w h => hts w (wsL_law_in w h)⟩, hK⟩
  have hT : qT (fun q : Nat => s.heap.size ≤ q) s s.heap := ⟨vx_Zqof (hts (.laysStatic Bundle.tN "UNASSIGNED_STACK" Bundle.steD) (by decide +kernel)) (hts (.initialized Bundle.tN) (by decide +kernel)) (hs (.isRef (.static Bundle.tN "UNASSIGNED_STACK" Bundle.steD)) (by decide +kernel)) (fun a h => Nat.not_le.mpr h),
    vx_Zqof (hts (.laysStatic Bundle.tN "SUPPRESSED_SENTINEL" Bundle.listD) (by decide +kernel)) (hts (.initialized Bundle.tN) (by decide +kernel)) (hs (.isRef (.static Bundle.tN "SUPPRESSED_SENTINEL" Bundle.listD)) (by decide +kernel)) (fun a h => Nat.not_le.mpr h), law_qE hts hgv⟩
  have hEN : eN s := va_Nw.of rfl (hts (.methodLinkNest RX6 23 yX2_init RX6) (by decide +kernel))
  have w : wW D (fun q : Nat => s.heap.size ≤ q) s.heap [] s.heap [] := ⟨fun k q h => (by cases h), ⟨fun i j x y h => (by cases h), fun k q h => (by cases h)⟩, va_S.rf⟩
  have hl := lv_entry ([.ref b]) (n := 18) (Nat.le_of_ble_eq_true rfl)
  rw [lg_entry_eq]
  generalize (lg_sl ([.ref b]) ++ List.replicate (18 - (lg_sl ([.ref b])).length) Slot.unset).toArray = ls at hl ⊢
  have hl : lv_has ls 18 [(0, .ref b)] := hl
  refine q_new (C := RX6) (T := TX6) (N := 11) (ci := 6) (fs := [.null, .null, .null, .null, .null, .null, .null, .int (iI 0), .int (iI 0), .int (iI 0), .int (iI 0)]) M w hA inlX6 tyX6 tyX6_ok (by decide +kernel) (by decide +kernel) (by decide +kernel) rfl dv6 (by decide) (by decide) dL_law_0 (fun q6 H w => ?_)
  have w : wW D (fun q : Nat => s.heap.size ≤ q) s.heap ([] ++ [(q6, .inr (6, [.null, .null, .null, .null, .null, .null, .null, .int (iI 0), .int (iI 0), .int (iI 0), .int (iI 0)]))]) H [] := w
  refine q_dup M dL_law_3 rfl ?_
  refine q_init (wr := []) (As := []) (rest := [.ref q6]) M w hA hl (k_init6 l D cI cI cI q6) eN_ok hEN gL_law_X6_init rfl (by decide +kernel) (by decide +kernel) (by decide +kernel) rfl ⟨by decide, by decide⟩ ⟨by decide, by decide⟩ 0 (by decide +kernel) rfl rfl (Nat.le_of_ble_eq_true rfl) dL_law_4 (fun ws9 H locs sh w => ?_)
  obtain ⟨a, ha0, rfl⟩ := sh
  have w : wW D (fun q : Nat => s.heap.size ≤ q) s.heap (WAll cI a mu0) H locs := w
  refine q_asn (lv' := [(1, .ref q6), (0, .ref b)]) M dL_law_7 rfl hl (by decide) rfl (fun ls hl => ?_)
  refine q_bp M dL_law_8 (by decide +kernel) ?_
  refine q_newa (N := 64) (atype := .int) (ty := .int) M w hA rfl (by decide +kernel) 0 rfl (Or.inl rfl) (by omega) (by omega) (by decide) (by decide) dL_law_10 (fun a2 H w => ?_)
  refine q_asn (lv' := [(2, .ref a2), (1, .ref q6), (0, .ref b)]) M dL_law_12 rfl hl (by decide) rfl (fun ls hl => ?_)
  refine q_bp M dL_law_13 (by decide +kernel) ?_
  refine q_newa (N := 64) (atype := .int) (ty := .int) M w hA rfl (by decide +kernel) 0 rfl (Or.inl rfl) (by omega) (by omega) (by decide) (by decide) dL_law_15 (fun a3 H w => ?_)
  refine q_asn (lv' := [(3, .ref a3), (2, .ref a2), (1, .ref q6), (0, .ref b)]) M dL_law_17 rfl hl (by decide) rfl (fun ls hl => ?_)
  refine q_bp M dL_law_18 (by decide +kernel) ?_
  refine q_newa (N := 64) (atype := .int) (ty := .int) M w hA rfl (by decide +kernel) 0 rfl (Or.inl rfl) (by omega) (by omega) (by decide) (by decide) dL_law_20 (fun a4 H w => ?_)
  refine q_as (lv' := [(4, .ref a4), (3, .ref a3), (2, .ref a2), (1, .ref q6), (0, .ref b)]) M dL_law_22 hl (by decide) rfl (fun ls hl => ?_)
  refine q_bp M dL_law_24 (by decide +kernel) ?_
  refine q_newa (N := 48) (atype := .int) (ty := .int) M w hA rfl (by decide +kernel) 0 rfl (Or.inl rfl) (by omega) (by omega) (by decide) (by decide) dL_law_26 (fun a5 H w => ?_)
  refine q_as (lv' := [(5, .ref a5), (4, .ref a4), (3, .ref a3), (2, .ref a2), (1, .ref q6), (0, .ref b)]) M dL_law_28 hl (by decide) rfl (fun ls hl => ?_)
  refine q_bp M dL_law_30 (by decide +kernel) ?_
  refine q_newa (N := 6) (atype := .int) (ty := .int) M w hA rfl (by decide +kernel) 0 rfl (Or.inl rfl) (by omega) (by omega) (by decide) (by decide) dL_law_32 (fun a6 H w => ?_)
  refine q_as (lv' := [(6, .ref a6), (5, .ref a5), (4, .ref a4), (3, .ref a3), (2, .ref a2), (1, .ref q6), (0, .ref b)]) M dL_law_34 hl (by decide) rfl (fun ls hl => ?_)
  refine q_bp M dL_law_36 (by decide +kernel) ?_
  refine q_newa (N := 40) (atype := .int) (ty := .int) M w hA rfl (by decide +kernel) 0 rfl (Or.inl rfl) (by omega) (by omega) (by decide) (by decide) dL_law_38 (fun a7 H w => ?_)
  refine q_as (lv' := [(7, .ref a7), (6, .ref a6), (5, .ref a5), (4, .ref a4), (3, .ref a3), (2, .ref a2), (1, .ref q6), (0, .ref b)]) M dL_law_40 hl (by decide) rfl (fun ls hl => ?_)
  refine q_bp M dL_law_42 (by decide +kernel) ?_
  refine q_newa (N := 48) (atype := .int) (ty := .int) M w hA rfl (by decide +kernel) 0 rfl (Or.inl rfl) (by omega) (by omega) (by decide) (by decide) dL_law_44 (fun a8 H w => ?_)
  refine q_as (lv' := [(8, .ref a8), (7, .ref a7), (6, .ref a6), (5, .ref a5), (4, .ref a4), (3, .ref a3), (2, .ref a2), (1, .ref q6), (0, .ref b)]) M dL_law_46 hl (by decide) rfl (fun ls hl => ?_)
  refine q_bp M dL_law_48 (by decide +kernel) ?_
  refine q_newa (N := 6) (atype := .int) (ty := .int) M w hA rfl (by decide +kernel) 0 rfl (Or.inl rfl) (by omega) (by omega) (by decide) (by decide) dL_law_50 (fun a9 H w => ?_)
  refine q_as (lv' := [(9, .ref a9), (8, .ref a8), (7, .ref a7), (6, .ref a6), (5, .ref a5), (4, .ref a4), (3, .ref a3), (2, .ref a2), (1, .ref q6), (0, .ref b)]) M dL_law_52 hl (by decide) rfl (fun ls hl => ?_)
  refine q_bp M dL_law_54 (by decide +kernel) ?_
  refine q_newa (N := 10) (atype := .int) (ty := .int) M w hA rfl (by decide +kernel) 0 rfl (Or.inl rfl) (by omega) (by omega) (by decide) (by decide) dL_law_56 (fun a10 H w => ?_)
  refine q_as (lv' := [(10, .ref a10), (9, .ref a9), (8, .ref a8), (7, .ref a7), (6, .ref a6), (5, .ref a5), (4, .ref a4), (3, .ref a3), (2, .ref a2), (1, .ref q6), (0, .ref b)]) M dL_law_58 hl (by decide) rfl (fun ls hl => ?_)
  refine q_bp M dL_law_60 (by decide +kernel) ?_
  refine q_newa (N := 16) (atype := .int) (ty := .int) M w hA rfl (by decide +kernel) 0 rfl (Or.inl rfl) (by omega) (by omega) (by decide) (by decide) dL_law_62 (fun a11 H w => ?_)
  refine q_as (lv' := [(11, .ref a11), (10, .ref a10), (9, .ref a9), (8, .ref a8), (7, .ref a7), (6, .ref a6), (5, .ref a5), (4, .ref a4), (3, .ref a3), (2, .ref a2), (1, .ref q6), (0, .ref b)]) M dL_law_64 hl (by decide) rfl (fun ls hl => ?_)
  refine q_bp M dL_law_66 (by decide +kernel) ?_
  refine q_newa (N := 64) (atype := .int) (ty := .int) M w hA rfl (by decide +kernel) 0 rfl (Or.inl rfl) (by omega) (by omega) (by decide) (by decide) dL_law_68 (fun a12 H w => ?_)
  refine q_as (lv' := [(12, .ref a12), (11, .ref a11), (10, .ref a10), (9, .ref a9), (8, .ref a8), (7, .ref a7), (6, .ref a6), (5, .ref a5), (4, .ref a4), (3, .ref a3), (2, .ref a2), (1, .ref q6), (0, .ref b)]) M dL_law_70 hl (by decide) rfl (fun ls hl => ?_)
  refine q_bp M dL_law_72 (by decide +kernel) ?_
  refine q_newa (N := 64) (atype := .int) (ty := .int) M w hA rfl (by decide +kernel) 0 rfl (Or.inl rfl) (by omega) (by omega) (by decide) (by decide) dL_law_74 (fun a13 H w => ?_)
  refine q_as (lv' := [(13, .ref a13), (12, .ref a12), (11, .ref a11), (10, .ref a10), (9, .ref a9), (8, .ref a8), (7, .ref a7), (6, .ref a6), (5, .ref a5), (4, .ref a4), (3, .ref a3), (2, .ref a2), (1, .ref q6), (0, .ref b)]) M dL_law_76 hl (by decide) rfl (fun ls hl => ?_)
  simp only [List.append_assoc] at w
  have w : wW D (fun q : Nat => s.heap.size ≤ q) s.heap (WLall cI (fun k => ([a2, a3, a4, a5, a6, a7, a8, a9, a10, a11, a12, a13] : List Nat).getD k 0) kz ++ WAll cI a mu0) H _ := wW_sw w
  have hl : lv_has ls 18 [(0, .ref b), (1, .ref (a 0)), (2, .ref ((fun k => ([a2, a3, a4, a5, a6, a7, a8, a9, a10, a11, a12, a13] : List Nat).getD k 0) 0)), (3, .ref ((fun k => ([a2, a3, a4, a5, a6, a7, a8, a9, a10, a11, a12, a13] : List Nat).getD k 0) 1)), (4, .ref ((fun k => ([a2, a3, a4, a5, a6, a7, a8, a9, a10, a11, a12, a13] : List Nat).getD k 0) 2)), (5, .ref ((fun k => ([a2, a3, a4, a5, a6, a7, a8, a9, a10, a11, a12, a13] : List Nat).getD k 0) 3)), (6, .ref ((fun k => ([a2, a3, a4, a5, a6, a7, a8, a9, a10, a11, a12, a13] : List Nat).getD k 0) 4)), (7, .ref ((fun k => ([a2, a3, a4, a5, a6, a7, a8, a9, a10, a11, a12, a13] : List Nat).getD k 0) 5)), (8, .ref ((fun k => ([a2, a3, a4, a5, a6, a7, a8, a9, a10, a11, a12, a13] : List Nat).getD k 0) 6)), (9, .ref ((fun k => ([a2, a3, a4, a5, a6, a7, a8, a9, a10, a11, a12, a13] : List Nat).getD k 0) 7)), (10, .ref ((fun k => ([a2, a3, a4, a5, a6, a7, a8, a9, a10, a11, a12, a13] : List Nat).getD k 0) 8)), (11, .ref ((fun k => ([a2, a3, a4, a5, a6, a7, a8, a9, a10, a11, a12, a13] : List Nat).getD k 0) 9)), (12, .ref ((fun k => ([a2, a3, a4, a5, a6, a7, a8, a9, a10, a11, a12, a13] : List Nat).getD k 0) 10)), (13, .ref ((fun k => ([a2, a3, a4, a5, a6, a7, a8, a9, a10, a11, a12, a13] : List Nat).getD k 0) 11))] := by
    rw [ha0]
    exact lv_sub hl [13, 12, 11, 10, 9, 8, 7, 6, 5, 4, 3, 2, 1, 0] rfl
  refine W.widen (k := 200) (n := 60000) (by decide) (by decide) ?_
  refine law_run (o := (fun k => ([a2, a3, a4, a5, a6, a7, a8, a9, a10, a11, a12, a13] : List Nat).getD k 0)) (a := a) hfl M hA hT hX hbl hbA hL (fun H locs ls k n hk hn hS => ?_) H _ ls w hl
  refine lv_iconst (v := 1) hx hb dL_law_400 (by decide) ?_
  refine va_forget (fun q hq => hS.2.2 q hq) ?_
  refine W.widen (k := 600104) (n := 7301314) hk hn ?_
  exact lw_ret hx hb hr hlocks dL_law_401
