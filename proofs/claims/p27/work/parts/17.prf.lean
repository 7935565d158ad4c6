/-! PURE words of the imagined reference state (from whole's parts 17 to 22, its walk left out) -/
/-! THE REFERENCE: what it answers at once -/
def inF (v lo hi : Int) : Int := if lo ≤ v ∧ v ≤ hi then 1 else 0
theorem inF_c (v lo hi : Int) : (inF v lo hi = 1 ∧ lo ≤ v ∧ v ≤ hi) ∨ (inF v lo hi = 0 ∧ ¬ (lo ≤ v ∧ v ≤ hi)) := by
  unfold inF
  by_cases q : lo ≤ v ∧ v ≤ hi
  · rw [if_pos q]; exact Or.inl ⟨rfl, q⟩
  · rw [if_neg q]; exact Or.inr ⟨rfl, q⟩
section DUP2
variable {p : Program} {l : Launch} {e : Env} {R : Room} {s : State} {m : MethodId} {args : Array Value} {below : List Frame} {meth : Method} {c : Code} {H : Heap} {locs : List Loc} {cells slots : Nat} {Q : State → Prop} {cc : ByteArray} {nL pc : Nat} {ls : Array Slot} {rest : List Value} {Ts : List Cond} {own : String} {D : va_G} {tys : List (ClassId × FieldType)}
theorem q_dup2 (M : qM p m c cc nL s args Ts own D tys) {va vb : Value} (hdg : decode cc pc = .ok (.dup2, 1)) (hv : va.category = 1) (hv2 : vb.category = 1) (kk : W p l e R s m args below meth c H locs cells slots Q (F0 m (pc + 1) ls (va :: vb :: va :: vb :: rest))) : W p l e R s m args below meth c H locs cells slots Q (F0 m pc ls (va :: vb :: rest)) := lv_dup2_11 M.1.1 M.1.2.1 hdg hv hv2 kk
end DUP2

/-! THE REFERENCE: bars -/
def mN (j : Nat) : Int := if j = 1 then 8 else if j = 2 then 8 else if j = 3 then 768 else if j = 4 then 192 else if j = 5 then 12 else if j = 6 then 12 else if j = 7 then 12 else if j = 8 then 96 else if j = 9 then 6 else if j = 10 then 48 else if j = 11 then 48 else if j = 12 then 48 else if j = 13 then 48 else if j = 15 then 8 else if j = 16 then 576 else if j = 17 then 576 else if j = 18 then 9 else if j = 19 then 8 else if j = 20 then 12 else if j = 25 then 8 else 1
theorem at_cong {D : va_G} {H : Heap} {x n : Nat} {cA : ClassId} {f g : Int → Int} (h : ∀ j : Int, 0 ≤ j → j < n → f j = g j) (h0 : va_at D vwCl (x, .inl (cA, n, .inl (iF f))) H) : va_at D vwCl (x, .inl (cA, n, .inl (iF g))) H := by
  have h1 : H[x]? = some (vp_cell cA (n, .inl (iF f))) := h0
  show H[x]? = some (vp_cell cA (n, .inl (iF g)))
  rw [← cell_cong h]
  exact h1
/-- the reference's rows, as the class's -/
def vw (ν : Nat → Int → Int) : Nat → Int → Int := fun k => ν (k + 1)
def cB (ν : Nat → Int → Int) (i : Int) : Int := 10 * ν 16 i + ν 17 i
theorem cB_d {ν : Nat → Int → Int} {i : Int} (h : 0 ≤ ν 17 i ∧ ν 17 i ≤ 1) : cB ν i / 10 = ν 16 i := by unfold cB; omega
theorem cB_m {ν : Nat → Int → Int} {i : Int} (h : 0 ≤ ν 17 i ∧ ν 17 i ≤ 1) : cB ν i % 10 = ν 17 i := by unfold cB; omega
def zF (g : Int → Int) (e : Int) : Int → Int := fun j => if 0 ≤ j ∧ j < e then 0 else g j
theorem zF_0 (g : Int → Int) : zF g 0 = g := by funext j; unfold zF; rw [if_neg (by omega)]
theorem zF_s (g : Int → Int) {e : Int} (he : 0 ≤ e) : iU (zF g e) e 0 = zF g (e + 1) := by
  funext j
  unfold iU zF
  by_cases q : j = e
  · rw [if_pos q, if_pos (by omega)]
  · rw [if_neg q]
    by_cases q2 : 0 ≤ j ∧ j < e
    · rw [if_pos q2, if_pos (by omega)]
    · rw [if_neg q2, if_neg (by omega)]
noncomputable def fB (m : Nat → Int → Int) (s : Int) : Int → Int := fun b => if 0 < m 5 (bP m s b) ∧ bT m s b % m 5 (bP m s b) = 0 then 1 else 0
theorem fB_bd (m : Nat → Int → Int) (s b : Int) : 0 ≤ fB m s b ∧ fB m s b ≤ 1 := by unfold fB; split <;> omega
noncomputable def eE (m : Nat → Int → Int) (s k : Int) : Int := if (ly m s k).2.1 = 0 then (ly m s k).1 else lvE (sT m s) (sG m s) (ly m s k).2.2.1 (ly m s k).1
noncomputable def dnE (m : Nat → Int → Int) (s k : Int) : Int → Int := if (ly m s k).2.1 = 0 then (ly m s k).2.2.1 else lvD (sT m s) (ly m s k).2.2.1 (ly m s k).1
noncomputable def lyW (ν : Nat → Int → Int) (s q : Int) : Nat → Int → Int := mset (mset (mset (mset ν 16 (cpF (ν 16) (bP (vw ν) s) q (lBs (vw ν) s))) 17 (cpF (ν 17) (fB (vw ν) s) q (lBs (vw ν) s))) 19 (dnE (vw ν) s (lBs (vw ν) s))) 20 (ly (vw ν) s (lBs (vw ν) s)).2.2.2
theorem ly_turn (m : Nat → Int → Int) (s : Int) {j : Int} (hj : 0 ≤ j) : (ly m s (j + 1)).2.2.2 = iU (ly m s j).2.2.2 (bP m s j) ((ly m s j).2.2.2 (bP m s j) + 1) := by
  have e : ly m s (j + 1) = lsF (sP m s) (sR m s) (sG m s) (sT m s) (ly m s j) := lay_s _ _ _ _ hj
  rw [e]
  unfold lsF
  by_cases q : sR m s (ly m s j).1 ≤ (ly m s j).2.1 + 1
  · rw [if_pos q]; rfl
  · rw [if_neg q]; rfl
theorem ly_next (m : Nat → Int → Int) (s : Int) {j : Int} (hj : 0 ≤ j) : (sR m s (ly m s j).1 ≤ (ly m s j).2.1 + 1 → (ly m s (j + 1)).1 = lvE (sT m s) (sG m s) (ly m s j).2.2.1 (ly m s j).1 ∧ (ly m s (j + 1)).2.1 = 0 ∧ (ly m s (j + 1)).2.2.1 = lvD (sT m s) (ly m s j).2.2.1 (ly m s j).1) ∧ (¬ sR m s (ly m s j).1 ≤ (ly m s j).2.1 + 1 → (ly m s (j + 1)).1 = (ly m s j).1 ∧ (ly m s (j + 1)).2.1 = (ly m s j).2.1 + 1 ∧ (ly m s (j + 1)).2.2.1 = (ly m s j).2.2.1) := by
  have e : ly m s (j + 1) = lsF (sP m s) (sR m s) (sG m s) (sT m s) (ly m s j) := lay_s _ _ _ _ hj
  rw [e]
  unfold lsF
  by_cases q : sR m s (ly m s j).1 ≤ (ly m s j).2.1 + 1
  · rw [if_pos q]
    exact ⟨fun _ => ⟨rfl, rfl, rfl⟩, fun h => absurd q h⟩
  · rw [if_neg q]
    exact ⟨fun h => absurd h q, fun _ => ⟨rfl, rfl, rfl⟩⟩
theorem swz (s x : Int) : s % 2 * x = if s % 2 = 1 then x else 0 := by
  rcases Int.emod_two_eq s with h | h
  · rw [h, Int.zero_mul, if_neg (by omega)]
  · rw [h, Int.one_mul, if_pos rfl]
theorem lvE_bd {n : Int} {P R G T : Int → Int} (hS : SD n P R G T) {e : Int} (he : 0 ≤ e ∧ e < n) {d : Int → Int} (hd : 0 ≤ d e) : 0 ≤ lvE T G d e ∧ lvE T G d e ≤ n := by
  obtain ⟨q1, q2, q3, q4⟩ := hS.2 e he.1 he.2
  unfold lvE
  split
  · omega
  · have := q4 (by omega); omega

theorem leave_E {m : Nat → Int → Int} {s k j n R : Int} (hi : (n < R → (ly m s j).1 = (ly m s k).1 ∧ (ly m s j).2.1 = n ∧ (ly m s j).2.2.1 = (ly m s k).2.2.1) ∧ (n = R → (ly m s j).1 = lvE (sT m s) (sG m s) (ly m s k).2.2.1 (ly m s k).1 ∧ (ly m s j).2.1 = 0 ∧ (ly m s j).2.2.1 = lvD (sT m s) (ly m s k).2.2.1 (ly m s k).1)) (hn : 0 < n ∧ n ≤ R) : eE m s j = lvE (sT m s) (sG m s) (ly m s k).2.2.1 (ly m s k).1 ∧ dnE m s j = lvD (sT m s) (ly m s k).2.2.1 (ly m s k).1 := by
  unfold eE dnE
  by_cases q : n = R
  · obtain ⟨a1, a2, a3⟩ := hi.2 q
    rw [if_pos a2, if_pos a2]
    exact ⟨a1, a3⟩
  · obtain ⟨a1, a2, a3⟩ := hi.1 (by omega)
    have h : ¬ (ly m s j).2.1 = 0 := by omega
    rw [if_neg h, if_neg h, a1, a3]
    exact ⟨rfl, rfl⟩

theorem msk2 {ν : Nat → Int → Int} {f g f2 g2 : Int → Int} {h16 h17 : Int → Int} {j : Nat} (z1 : j ≠ 19) (z2 : j ≠ 20) (i : Int) (e16 : h16 = ν 16 := by rfl) (e17 : h17 = ν 17 := by rfl) : mset (mset ν 19 f) 20 g j i = mset (mset (mset (mset ν 16 h16) 17 h17) 19 f2) 20 g2 j i := by
  have b1 : Nat.beq j 19 = false := by
    cases h : Nat.beq j 19
    · rfl
    · exact absurd (Nat.eq_of_beq_eq_true h) z1
  have b2 : Nat.beq j 20 = false := by
    cases h : Nat.beq j 20
    · rfl
    · exact absurd (Nat.eq_of_beq_eq_true h) z2
  unfold mset
  rw [b1, b2]
  show ν j i = cond (Nat.beq j 17) h17 (cond (Nat.beq j 16) h16 (ν j)) i
  cases h : Nat.beq j 17
  · cases h2 : Nat.beq j 16
    · rfl
    · rw [e16, Nat.eq_of_beq_eq_true h2]; rfl
  · rw [e17, Nat.eq_of_beq_eq_true h]; rfl

/-! THE REFERENCE: songs asked, the set begun -/
theorem lB_in (n : Int) (P R G T : Int → Int) : (0 ≤ lB n P R G T ∧ lB n P R G T ≤ 64) ∧ (∀ j, 0 ≤ j → j < lB n P R G T → (lay P R G T j).1 < n) ∧ (lB n P R G T = 64 ∨ n ≤ (lay P R G T (lB n P R G T)).1) := by
  have key := itI_ind (F := fun i m => if m = i ∧ (lay P R G T i).1 < n then i + 1 else m) (g := (0 : Int)) (fun i (m : Int) => (0 ≤ m ∧ m ≤ i) ∧ (∀ j, 0 ≤ j → j < m → (lay P R G T j).1 < n) ∧ (m = i ∨ n ≤ (lay P R G T m).1)) ⟨by omega, fun j h1 h2 => by omega, Or.inl rfl⟩ (fun i m hi ih => by
    by_cases q : m = i ∧ (lay P R G T i).1 < n
    · rw [if_pos q]
      refine ⟨by omega, fun j h1 h2 => ?_, Or.inl rfl⟩
      by_cases e : j = i
      · rw [e]; exact q.2
      · exact ih.2.1 j h1 (by omega)
    · rw [if_neg q]
      refine ⟨by omega, ih.2.1, ?_⟩
      rcases ih.2.2 with h | h
      · right
        rw [h]
        omega
      · exact Or.inr h) (i := 64) (by omega)
  exact key
theorem lay_ok {n : Int} {P R G T : Int → Int} (hS : SD n P R G T) {k : Int} (hk : 0 ≤ k) (h : k ≤ lB n P R G T) : lsOK n P R G T k := by
  obtain ⟨m, rfl⟩ := Int.eq_ofNat_of_zero_le hk
  induction m with
  | zero => exact lsOK_0 hS
  | succ m ih => exact lsOK_s hS (by omega) (ih (by omega) (by omega)) ((lB_in n P R G T).2.1 m (by omega) (by omega))
theorem lBs_bd (m : Nat → Int → Int) (s : Int) : 0 ≤ lBs m s ∧ lBs m s ≤ 64 := (lB_in _ _ _ _ _).1
theorem bP_bd {m : Nat → Int → Int} {s : Int} (hS : SDs m s) {k : Int} (hk : 0 ≤ k ∧ k < lBs m s) : (0 ≤ bP m s k ∧ bP m s k < 12) ∧ 0 ≤ bT m s k ∧ bT m s k < 1000 := by
  have h1 : lsOK (m 8 s) (sP m s) (sR m s) (sG m s) (sT m s) k := lay_ok hS hk.1 (by have := hk.2; unfold lBs at this; omega)
  have h2 : (ly m s k).1 < m 8 s := (lB_in _ _ _ _ _).2.1 k hk.1 hk.2
  have h3 := hS.2 (ly m s k).1 h1.1.1 h2
  have h4 := h1.2.2.2.1 (bP m s k)
  have h5 := lBs_bd m s
  refine ⟨h3.1, ?_⟩
  unfold bT
  unfold ly
  omega
theorem cB_ly {ν : Nat → Int → Int} {s q x : Int} (hx : 0 ≤ x ∧ x < lBs (vw ν) s) : cB (lyW ν s q) (q + x) = cdF (vw ν) (bP (vw ν) s x) (bT (vw ν) s x) := by
  have e1 : (lyW ν s q) 16 (q + x) = bP (vw ν) s x := (if_pos ⟨by omega, by omega⟩).trans (by rw [show q + x - q = x by omega])
  have e2 : (lyW ν s q) 17 (q + x) = fB (vw ν) s x := (if_pos ⟨by omega, by omega⟩).trans (by rw [show q + x - q = x by omega])
  unfold cB
  rw [e1, e2]
  rfl
theorem ly_16 {ν : Nat → Int → Int} {s q x : Int} (hS : SDs (vw ν) s) (hx : 0 ≤ x ∧ x < lBs (vw ν) s) : (0 ≤ (lyW ν s q) 16 (q + x) ∧ (lyW ν s q) 16 (q + x) < 12) ∧ 0 ≤ (lyW ν s q) 17 (q + x) ∧ (lyW ν s q) 17 (q + x) ≤ 1 := by
  have e1 : (lyW ν s q) 16 (q + x) = bP (vw ν) s x := (if_pos ⟨by omega, by omega⟩).trans (by rw [show q + x - q = x by omega])
  have e2 : (lyW ν s q) 17 (q + x) = fB (vw ν) s x := (if_pos ⟨by omega, by omega⟩).trans (by rw [show q + x - q = x by omega])
  rw [e1, e2]
  exact ⟨(bP_bd hS hx).1, fB_bd _ _ _⟩
def r0 (ν : Nat → Int → Int) : Nat → Int → Int := mset ν 0 (fun _ => 0)
def jmR (ν : Nat → Int → Int) (s e g t : Int) : Nat → Int → Int := mset (mset (mset ν 0 (fun _ => 0)) 12 (iU (ν 12) (s * 8 + e) g)) 13 (iU (ν 13) (s * 8 + e) t)
noncomputable def btR (m : Nat → Int → Int) (s : Int) : Int → Int := fun x => if sA m (cdF m (bP m s (x / 64)) (bT m s (x / 64))) (x / 16 % 4) (x % 16) = -1 then 0 else 1
noncomputable def fsR (ν : Nat → Int → Int) (k : Int) : Int := sI (fun j => lBs (vw ν) (ν 15 j)) k
theorem fsR_bd (ν : Nat → Int → Int) {k : Int} (hk : 0 ≤ k) : 0 ≤ fsR ν k ∧ fsR ν k ≤ 64 * k := sI_bd _ (fun j => lBs_bd _ _) hk
noncomputable def stX (ν : Nat → Int → Int) (k : Int) : (Int → Int) × (Int → Int) × (Int → Int) × (Int → Int) × (Int → Int) := itI (fun j x => (cpF x.1 (bP (vw ν) (ν 15 j)) (fsR ν j) (lBs (vw ν) (ν 15 j)), cpF x.2.1 (fB (vw ν) (ν 15 j)) (fsR ν j) (lBs (vw ν) (ν 15 j)), iU x.2.2.1 j (fsR ν j), dnE (vw ν) (ν 15 j) (lBs (vw ν) (ν 15 j)), (ly (vw ν) (ν 15 j) (lBs (vw ν) (ν 15 j))).2.2.2)) (ν 16, ν 17, ν 18, ν 19, ν 20) k
/-! THE REFERENCE: the set begun; next uses -/
def canR (ν : Nat → Int → Int) (k : Int) : Prop := ν 21 0 = 0 ∧ 0 < ν 14 0 ∧ ∀ j, 0 ≤ j → j < k → 0 < ν 9 (ν 15 j)
theorem canR_t {ν : Nat → Int → Int} {k : Int} (h : canR ν k) (h2 : 0 < ν 9 (ν 15 k)) : canR ν (k + 1) := ⟨h.1, h.2.1, fun j h3 h4 => by
  by_cases e : j = k
  · rw [e]; exact h2
  · exact h.2.2 j h3 (by omega)⟩
theorem canR_f {ν : Nat → Int → Int} {k : Int} (h : ¬ canR ν k) : ¬ canR ν (k + 1) := fun q => h ⟨q.1, q.2.1, fun j h3 h4 => q.2.2 j h3 (by omega)⟩
theorem canR_g {ν : Nat → Int → Int} {k : Int} (hk : 0 ≤ k) (h : ¬ 0 < ν 9 (ν 15 k)) : ¬ canR ν (k + 1) := fun q => h (q.2.2 k hk (by omega))
noncomputable def stR (ν : Nat → Int → Int) : Nat → Int → Int := mset (mset (mset (mset (mset (mset (mset (mset (mset (mset (mset (mset (mset ν 0 (fun _ => 0)) 16 ((stX ν (ν 14 0)).1)) 17 ((stX ν (ν 14 0)).2.1)) 18 (iU (stX ν (ν 14 0)).2.2.1 (ν 14 0) (fsR ν (ν 14 0)))) 19 ((stX ν (ν 14 0)).2.2.2.1)) 20 ((stX ν (ν 14 0)).2.2.2.2)) 21 (fun _ => 1)) 22 (fun _ => 0)) 23 (fun _ => 0)) 24 (fun _ => 0)) 25 (fun _ => 0)) 26 (fun _ => (-1))) 27 (fun _ => 0)
/-- what next uses are read off: the bars of the set, its place -/
def NX (ν : Nat → Int → Int) : Prop := IP (vw ν) ∧ (∀ i, 0 ≤ i → i < ν 18 (ν 14 0) → (0 ≤ ν 16 i ∧ ν 16 i < 12) ∧ 0 ≤ ν 17 i ∧ ν 17 i ≤ 1) ∧ (0 ≤ ν 18 (ν 14 0) ∧ ν 18 (ν 14 0) ≤ 512) ∧ (0 ≤ ν 14 0 ∧ ν 14 0 ≤ 8) ∧ (0 ≤ ν 23 0 ∧ ν 23 0 ≤ 512) ∧ 0 ≤ ν 24 0 ∧ ν 24 0 < 192
/-- place p: step p % 16 of the bar that is p / 16 ahead -/
def nL (ν : Nat → Int → Int) (p : Int) : Int := 192 * (p / 16) + tOf (vw ν) (cB ν (ν 23 0 + p / 16)) (p % 16) - ν 24 0
def nC (ν : Nat → Int → Int) (s p : Int) : Prop := ν 23 0 + p / 16 < ν 18 (ν 14 0) ∧ 0 < nL ν p ∧ ∃ t, 0 ≤ t ∧ t < 4 ∧ sA (vw ν) (cB ν (ν 23 0 + p / 16)) t (p % 16) = s
noncomputable def nW (ν : Nat → Int → Int) (s k : Int) : Int := itI (fun i a => @ite Int (nC ν s (63 - i)) (Classical.propDecidable _) (nL ν (63 - i)) a) (-1) k
noncomputable def nF (ν : Nat → Int → Int) (s : Int) : Int := nW ν s 64
noncomputable def nU (ν : Nat → Int → Int) : Int → Int := fun s => if nF ν s = -1 then 768 else nF ν s
theorem nW_s (ν : Nat → Int → Int) (s : Int) {p : Int} (hp : 0 ≤ p ∧ p < 64) : (nC ν s p → nW ν s (64 - p) = nL ν p) ∧ (¬ nC ν s p → nW ν s (64 - p) = nW ν s (63 - p)) := by
  have e : nW ν s (64 - p) = @ite Int (nC ν s (63 - (63 - p))) (Classical.propDecidable _) (nL ν (63 - (63 - p))) (nW ν s (63 - p)) := by
    rw [show 64 - p = (63 - p) + 1 by omega]
    exact itI_s _ _ (by omega)
  rw [show 63 - (63 - p) = p by omega] at e
  refine ⟨fun h => ?_, fun h => ?_⟩
  · rw [e, if_pos h]
  · rw [e, if_neg h]
theorem nW_0 (ν : Nat → Int → Int) (s : Int) : nW ν s 0 = -1 := itI_0 _ _
theorem nW_e {ν : Nat → Int → Int} {s h : Int} (hh : 0 ≤ h ∧ h ≤ 4) (hx : ν 18 (ν 14 0) ≤ ν 23 0 + h) : nW ν s (64 - 16 * h) = -1 := by
  refine (itI_ind (fun i (a : Int) => i ≤ 64 - 16 * h → a = -1) (fun _ => rfl) (fun i a hi ih hq => ?_) (i := 64 - 16 * h) (by omega)) (Int.le_refl _)
  rw [if_neg (fun q => by have := q.1; omega)]
  exact ih (by omega)
theorem nF_bd {ν : Nat → Int → Int} (hN : NX ν) (s : Int) : nF ν s = -1 ∨ 0 < nF ν s ∧ nF ν s ≤ 762 := by
  refine (itI_ind (fun i (a : Int) => i ≤ 64 → a = -1 ∨ 0 < a ∧ a ≤ 762) (fun _ => Or.inl rfl) (fun i a hi ih hq => ?_) (i := 64) (by omega)) (Int.le_refl _)
  by_cases c : nC ν s (63 - i)
  · rw [if_pos c]
    have h1 := c.2.1
    have h2 := tOf_bd hN.1 (cB ν (ν 23 0 + (63 - i) / 16)) ((63 - i) % 16)
    have h3 := hN.2.2.2.2.2
    unfold nL at h1 ⊢
    omega
  · rw [if_neg c]
    exact ih (by omega)
theorem nU_bd {ν : Nat → Int → Int} (hN : NX ν) (s : Int) : 0 < nU ν s ∧ nU ν s ≤ 768 := by
  have := nF_bd hN s
  unfold nU
  split <;> omega
theorem nU_c {ν : Nat → Int → Int} (hN : NX ν) (s : Int) : (nF ν s = -1 ∧ nU ν s = 768) ∨ (nF ν s ≠ -1 ∧ nU ν s = nF ν s ∧ 0 < nF ν s ∧ nF ν s ≤ 762) := by
  have := nF_bd hN s
  unfold nU
  split <;> omega
def fr2 (v : Int) : Int := if v = 768 then 1073741824 else v
theorem fr2_c (v : Int) : (v = 768 ∧ fr2 v = 1073741824) ∨ (v ≠ 768 ∧ fr2 v = v) := by unfold fr2; split <;> omega

/-! THE REFERENCE: the memory -/
theorem fNr_u (u z g : Int → Int) {k : Int} (hk : 0 ≤ k) : ((fNr u z g k).1 = -1 ∧ (fNr u z g k).2 = 768) ∨ (0 ≤ (fNr u z g k).1 ∧ (fNr u z g k).2 = u (fNr u z g k).1 ∧ (fNr u z g k).2 < 768) := by
  have key := itI_ind (F := fun s (st : Int × Int) => if u s < st.2 ∧ g s < z s then (s, u s) else st) (g := ((-1 : Int), (768 : Int))) (fun n (st : Int × Int) => ((st.1 = -1 ∧ st.2 = 768) ∨ (0 ≤ st.1 ∧ st.2 = u st.1 ∧ st.2 < 768)) ∧ st.2 ≤ 768) ⟨Or.inl ⟨rfl, rfl⟩, by decide⟩ (fun j st hj ih => by
    by_cases q : u j < st.2 ∧ g j < z j
    · rw [if_pos q]
      refine ⟨Or.inr ⟨hj, rfl, ?_⟩, ?_⟩
      · show u j < 768
        have := ih.2; have := q.1; omega
      · show u j ≤ 768
        have := ih.2; have := q.1; omega
    · rw [if_neg q]; exact ih) (i := k) hk
  exact key.1
noncomputable def tkR (ν : Nat → Int → Int) : (Int → Int) × Int × Int × Int := tkF (nU ν) (ν 1) (ν 25, sI (ν 25) 8, ν 26 0, ν 27 0)
/-- what the loader needs -/
def MX (ν : Nat → Int → Int) : Prop := NX ν ∧ (∀ i, 0 ≤ ν 25 i ∧ ν 25 i ≤ 6) ∧ (∀ i, 1 ≤ ν 1 i ∧ ν 1 i ≤ 6) ∧ sI (ν 25) 8 ≤ 12

/-! THE REFERENCE: a tick -/
def vx (ν : Nat → Int → Int) : Nat → Int → Int := mset (vw ν) 21 (ν 25)
noncomputable def plR (ν : Nat → Int → Int) : Int × Int × Int := if sTa (vw ν) (cB ν (ν 23 0)) (ν 24 0) = -1 then (ν 28 0, ν 29 0, ν 30 0) else plF (vx ν) (cB ν (ν 23 0)) (sTa (vw ν) (cB ν (ν 23 0)) (ν 24 0)) (ν 28 0, ν 29 0, ν 30 0) 4
noncomputable def uS (ν : Nat → Int → Int) (y : Int) : Int × Int × Int := if sTa (vw ν) (cB ν (ν 23 0)) (ν 24 0) ≠ -1 ∧ sTa (vw ν) (cB ν (ν 23 0)) (ν 24 0) < y then plF (vx ν) (cB ν (ν 23 0)) (sTa (vw ν) (cB ν (ν 23 0)) (ν 24 0)) (ν 28 0, ν 29 0, ν 30 0) 4 else (ν 28 0, ν 29 0, ν 30 0)
noncomputable def uV (ν : Nat → Int → Int) (y t : Int) : Int × Int × Int := if tOf (vw ν) (cB ν (ν 23 0)) y = ν 24 0 then plF (vx ν) (cB ν (ν 23 0)) y (ν 28 0, ν 29 0, ν 30 0) t else uS ν y
theorem sTa_t {μ : Nat → Int → Int} (hI : IP μ) {c t y : Int} : (tOf μ c y = t → sTa μ c t = y) ∧ (tOf μ c y ≠ t → 0 ≤ y → sTa μ c t ≠ y) := by
  have hb := tOf_bd hI c y
  refine ⟨fun h => ?_, fun h hy => ?_⟩
  · unfold sTa
    have e : t / 12 = y := by omega
    rw [e, if_pos h]
  · unfold sTa
    intro q
    by_cases e : tOf μ c (t / 12) = t
    · rw [if_pos e] at q
      rw [q] at e
      exact h e
    · rw [if_neg e] at q
      omega
theorem u_a {ν : Nat → Int → Int} (hI : IP (vw ν)) {y : Int} (hy : 0 ≤ y) : uV ν y 0 = uS ν y := by
  unfold uV
  by_cases h : tOf (vw ν) (cB ν (ν 23 0)) y = ν 24 0
  · rw [if_pos h]
    have e := (sTa_t hI).1 h
    have e2 : uS ν y = (ν 28 0, ν 29 0, ν 30 0) := if_neg (fun q => by have := q.2; omega)
    rw [e2]
    exact itI_0 _ _
  · rw [if_neg h]
theorem u_b {ν : Nat → Int → Int} (hI : IP (vw ν)) {y : Int} (hy : 0 ≤ y) (h : tOf (vw ν) (cB ν (ν 23 0)) y = ν 24 0) : uV ν y 4 = uS ν (y + 1) := by
  have e := (sTa_t hI).1 h
  unfold uV uS
  rw [if_pos h, if_pos (by omega), e]
theorem u_c {ν : Nat → Int → Int} (hI : IP (vw ν)) {y t : Int} (hy : 0 ≤ y) (h : tOf (vw ν) (cB ν (ν 23 0)) y ≠ ν 24 0) : uV ν y t = uS ν (y + 1) := by
  have e := (sTa_t hI).2 h hy
  unfold uV uS
  rw [if_neg h]
  by_cases q : sTa (vw ν) (cB ν (ν 23 0)) (ν 24 0) ≠ -1 ∧ sTa (vw ν) (cB ν (ν 23 0)) (ν 24 0) < y
  · rw [if_pos q, if_pos (by omega)]
  · rw [if_neg q, if_neg (by omega)]
theorem u_d (ν : Nat → Int → Int) (hd : 0 ≤ ν 24 0) : uS ν 0 = (ν 28 0, ν 29 0, ν 30 0) := by
  have := sTa_cs (vw ν) (cB ν (ν 23 0)) (ν 24 0)
  unfold uS
  rw [if_neg (by omega)]
theorem u_e (ν : Nat → Int → Int) (hd : 0 ≤ ν 24 0 ∧ ν 24 0 < 192) : uS ν 16 = plR ν := by
  have := sTa_cs (vw ν) (cB ν (ν 23 0)) (ν 24 0)
  unfold uS plR
  by_cases q : sTa (vw ν) (cB ν (ν 23 0)) (ν 24 0) = -1
  · rw [if_neg (by omega), if_pos q]
  · rw [if_pos (by omega), if_neg q]

noncomputable def ldR (ν : Nat → Int → Int) : (Int → Int) × Int × Int × Int := ldF (nU ν) (ν 1) (ν 25, sI (ν 25) 8, ν 26 0, ν 27 0)
noncomputable def wkR (ν : Nat → Int → Int) : Int := if (ldR ν).2.2.1 = -1 then 0 else (ldR ν).2.2.2
def rd24 (ν : Nat → Int → Int) : Int := if ν 24 0 + 1 = 192 then 0 else ν 24 0 + 1
def rd23 (ν : Nat → Int → Int) : Int := if ν 24 0 + 1 = 192 then ν 23 0 + 1 else ν 23 0
def rd22 (ν : Nat → Int → Int) : Int := if ν 24 0 + 1 = 192 ∧ ν 23 0 + 1 = ν 18 (ν 22 0 + 1) then ν 22 0 + 1 else ν 22 0
def rd21 (ν : Nat → Int → Int) : Int := if ν 24 0 + 1 = 192 then (if rd22 ν < ν 14 0 then 1 else 0) else ν 21 0
noncomputable def psR (ν : Nat → Int → Int) : Nat → Int → Int := mset (mset (mset (mset (mset (mset (mset (mset (mset (mset ν 21 (fun _ => rd21 ν)) 22 (fun _ => rd22 ν)) 23 (fun _ => rd23 ν)) 24 (fun _ => rd24 ν)) 25 ((ldR ν).1)) 26 (fun _ => (ldR ν).2.2.1)) 27 (fun _ => wkR ν)) 28 (fun _ => (plR ν).1)) 29 (fun _ => (plR ν).2.1)) 30 (fun _ => (plR ν).2.2)
theorem nF_congr {ν ν2 : Nat → Int → Int} (h2 : vw ν2 2 = vw ν 2) (h3 : vw ν2 3 = vw ν 3) (h4 : vw ν2 4 = vw ν 4) (h14 : ν2 14 = ν 14) (h16 : ν2 16 = ν 16) (h17 : ν2 17 = ν 17) (h18 : ν2 18 = ν 18) (h23 : ν2 23 = ν 23) (h24 : ν2 24 = ν 24) : nF ν2 = nF ν := by
  have hl : nL ν2 = nL ν := by
    funext p
    unfold nL cB tOf
    rw [h4, h16, h17, h23, h24]
  have hc : nC ν2 = nC ν := by
    funext s p
    unfold nC
    rw [hl]
    unfold cB sA
    rw [h2, h3, h14, h16, h17, h18, h23]
  funext s
  unfold nF nW
  rw [hc, hl]
theorem nU_congr {ν ν2 : Nat → Int → Int} (h2 : vw ν2 2 = vw ν 2) (h3 : vw ν2 3 = vw ν 3) (h4 : vw ν2 4 = vw ν 4) (h14 : ν2 14 = ν 14) (h16 : ν2 16 = ν 16) (h17 : ν2 17 = ν 17) (h18 : ν2 18 = ν 18) (h23 : ν2 23 = ν 23) (h24 : ν2 24 = ν 24) : nU ν2 = nU ν := by
  unfold nU
  rw [nF_congr h2 h3 h4 h14 h16 h17 h18 h23 h24]
theorem tkR_u (ν : Nat → Int → Int) (f g h : Int → Int) : tkR (mset (mset (mset ν 28 f) 29 g) 30 h) = tkR ν := by
  unfold tkR
  rw [nU_congr (ν := ν) (ν2 := mset (mset (mset ν 28 f) 29 g) 30 h) rfl rfl rfl rfl rfl rfl rfl rfl rfl]
  rfl
theorem tk_cs (ν : Nat → Int → Int) : (tkR ν = (ν 25, sI (ν 25) 8, ν 26 0, ν 27 0)) ∨ (0 ≤ (tkR ν).2.2.1 ∧ (tkR ν).2.2.1 < 8 ∧ (tkR ν).2.2.2 = 0) := by
  unfold tkR tkF
  have h1 := fNr_bd (nU ν) (ν 1) (ν 25) (show (0 : Int) ≤ 8 by omega)
  by_cases q : (fNr (nU ν) (ν 1) (ν 25) 8).1 = -1
  · rw [if_pos q]; exact Or.inl rfl
  · rw [if_neg q]
    split
    · right; exact ⟨by dsimp only; omega, by dsimp only; omega, rfl⟩
    · split
      · exact Or.inl rfl
      · right; exact ⟨by dsimp only; omega, by dsimp only; omega, rfl⟩
/-- what a tick of the reference needs -/
def PM (ν : Nat → Int → Int) : Prop := MX ν ∧ (((0 ≤ ν 16 (ν 23 0) ∧ ν 16 (ν 23 0) < 12) ∧ 0 ≤ ν 17 (ν 23 0) ∧ ν 17 (ν 23 0) ≤ 1) ∧ (0 ≤ ν 23 0 ∧ ν 23 0 < 512) ∧ 0 ≤ ν 24 0 ∧ ν 24 0 < 192) ∧ (∀ i, 0 ≤ ν 25 i ∧ ν 25 i ≤ ν 1 i) ∧ (-1 ≤ ν 26 0 ∧ ν 26 0 < 8) ∧ (ν 26 0 = -1 → ν 27 0 = 0) ∧ (0 ≤ ν 27 0 ∧ ν 27 0 ≤ 7) ∧ (0 ≤ ν 22 0 ∧ ν 22 0 < 8) ∧ (∀ j, 0 ≤ j → j ≤ 8 → 0 ≤ ν 18 j ∧ ν 18 j ≤ 512)

noncomputable def tkM (ν : Nat → Int → Int) (k : Int) : Nat → Int → Int := itI (fun _ m => if m 21 0 = 1 then psR m else m) (r0 ν) k

