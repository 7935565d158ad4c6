/-! STATE: what the system's cells hold; μ k: the contents of row k (class), of slot k (reference); a scalar is component k at 0 -/
def mset (μ : Nat → Int → Int) (k : Nat) (f : Int → Int) : Nat → Int → Int := fun j => cond (Nat.beq j k) f (μ j)
abbrev tY (cI cZ cJ : ClassId) : List (ClassId × FieldType) := [(cI, .int)]
def WRow (cI : ClassId) (b b2 n : Nat) (f : Int → Int) : va_W := [(b, .inr (3, [.ref b2])), (b2, .inl (cI, n, .inl (iF f)))]
def WArr (cI : ClassId) (b2 n : Nat) (f : Int → Int) : va_W := [(b2, .inl (cI, n, .inl (iF f)))]
theorem wW_cong {D : va_G} {A : Nat → Prop} {H0 H : Heap} {locs : List Loc} {ws ws' : va_W} (w : wW D A H0 ws H locs) (h : ∀ (k : Nat) (q : Nat × va_E), ws'[k]? = some q → ∃ q0 : Nat × va_E, ws[k]? = some q0 ∧ q0.1 = q.1 ∧ (va_at D vwCl q0 H → va_at D vwCl q H)) : wW D A H0 ws' H locs := by
  refine ⟨fun k q hk => ?_, ⟨fun i j x y hi hj hxy => ?_, fun k q hk => ?_⟩, w.2.2⟩
  · obtain ⟨q0, h1, h2, h3⟩ := h k q hk
    exact h3 (w.1 k q0 h1)
  · obtain ⟨x0, h1, h2, -⟩ := h i x hi
    obtain ⟨y0, h3, h4, -⟩ := h j y hj
    exact w.2.1.1 i j x0 y0 h1 h3 (h2.trans (hxy.trans h4.symm))
  · obtain ⟨q0, h1, h2, -⟩ := h k q hk
    rw [← h2]
    exact w.2.1.2 k q0 h1
theorem cell_cong {cA : ClassId} {n : Nat} {f g : Int → Int} (h : ∀ j : Int, 0 ≤ j → j < n → f j = g j) : vp_cell cA (n, .inl (iF f)) = vp_cell cA (n, .inl (iF g)) := by
  rw [vp_cell_i, vp_cell_i]
  unfold arrV
  have e : (fun j : Fin n => Value.int (iF f j.val)) = (fun j : Fin n => Value.int (iF g j.val)) := by
    funext j
    have hj := j.isLt
    unfold iF
    rw [h (j.val : Int) (by omega) (by omega)]
  rw [e]
theorem WArr_cong {D : va_G} {A : Nat → Prop} {H0 H : Heap} {locs : List Loc} {cI : ClassId} {b2 n : Nat} {f g : Int → Int} (w : wW D A H0 (WArr cI b2 n f) H locs) (h : ∀ j : Int, 0 ≤ j → j < n → f j = g j) : wW D A H0 (WArr cI b2 n g) H locs := by
  refine wW_cong w fun k q hk => ?_
  match k, hk with
  | 0, hk =>
    cases hk
    refine ⟨_, rfl, rfl, fun h0 => ?_⟩
    have h1 : H[b2]? = some (vp_cell cI (n, .inl (iF f))) := h0
    show H[b2]? = some (vp_cell cI (n, .inl (iF g)))
    rw [← cell_cong h]
    exact h1
  | k + 1, hk => cases hk
def WPat (cI : ClassId) (a : Nat → Nat) (μ : Nat → Int → Int) : va_W := [(a 12, .inr (3, [.ref (a 13)])), (a 13, .inl (cI, 8, .inl (iF (μ 1)))), (a 1, .inr (2, [.ref (a 14), .ref (a 16), .ref (a 18), .ref (a 20), .ref (a 22), .ref (a 24)])), (a 14, .inr (3, [.ref (a 15)])), (a 15, .inl (cI, 768, .inl (iF (μ 2)))), (a 16, .inr (3, [.ref (a 17)])), (a 17, .inl (cI, 192, .inl (iF (μ 3)))), (a 18, .inr (3, [.ref (a 19)])), (a 19, .inl (cI, 12, .inl (iF (μ 4)))), (a 20, .inr (3, [.ref (a 21)])), (a 21, .inl (cI, 12, .inl (iF (μ 5)))), (a 22, .inr (3, [.ref (a 23)])), (a 23, .inl (cI, 12, .inl (iF (μ 6)))), (a 24, .inr (3, [.ref (a 25)])), (a 25, .inl (cI, 96, .inl (iF (μ 7))))]
def WSng (cI : ClassId) (a : Nat → Nat) (μ : Nat → Int → Int) (f13 f14 f15 f16 f17 : Int → Int) : va_W := [(a 12, .inr (3, [.ref (a 13)])), (a 13, .inl (cI, 8, .inl (iF (μ 1)))), (a 1, .inr (2, [.ref (a 14), .ref (a 16), .ref (a 18), .ref (a 20), .ref (a 22), .ref (a 24)])), (a 14, .inr (3, [.ref (a 15)])), (a 15, .inl (cI, 768, .inl (iF (μ 2)))), (a 16, .inr (3, [.ref (a 17)])), (a 17, .inl (cI, 192, .inl (iF (μ 3)))), (a 18, .inr (3, [.ref (a 19)])), (a 19, .inl (cI, 12, .inl (iF (μ 4)))), (a 20, .inr (3, [.ref (a 21)])), (a 21, .inl (cI, 12, .inl (iF (μ 5)))), (a 22, .inr (3, [.ref (a 23)])), (a 23, .inl (cI, 12, .inl (iF (μ 6)))), (a 24, .inr (3, [.ref (a 25)])), (a 25, .inl (cI, 96, .inl (iF (μ 7)))), (a 2, .inr (5, [.ref (a 1), .ref (a 26), .ref (a 28), .ref (a 30), .ref (a 32), .ref (a 34), .ref (a 36), .ref (a 38), .ref (a 40), .ref (a 42), .ref (a 44)])), (a 26, .inr (3, [.ref (a 27)])), (a 27, .inl (cI, 6, .inl (iF (μ 8)))), (a 28, .inr (3, [.ref (a 29)])), (a 29, .inl (cI, 48, .inl (iF (μ 9)))), (a 30, .inr (3, [.ref (a 31)])), (a 31, .inl (cI, 48, .inl (iF (μ 10)))), (a 32, .inr (3, [.ref (a 33)])), (a 33, .inl (cI, 48, .inl (iF (μ 11)))), (a 34, .inr (3, [.ref (a 35)])), (a 35, .inl (cI, 48, .inl (iF (μ 12)))), (a 36, .inr (3, [.ref (a 37)])), (a 37, .inl (cI, 6, .inl (iF f13))), (a 38, .inr (3, [.ref (a 39)])), (a 39, .inl (cI, 384, .inl (iF f14))), (a 40, .inr (3, [.ref (a 41)])), (a 41, .inl (cI, 384, .inl (iF f15))), (a 42, .inr (3, [.ref (a 43)])), (a 43, .inl (cI, 8, .inl (iF f16))), (a 44, .inr (3, [.ref (a 45)])), (a 45, .inl (cI, 12, .inl (iF f17)))]
def WSn0 (cI : ClassId) (a : Nat → Nat) (μ : Nat → Int → Int) (f13 f14 f15 f16 f17 : Int → Int) : va_W := [(a 2, .inr (5, [.ref (a 1), .ref (a 26), .ref (a 28), .ref (a 30), .ref (a 32), .ref (a 34), .ref (a 36), .ref (a 38), .ref (a 40), .ref (a 42), .ref (a 44)])), (a 26, .inr (3, [.ref (a 27)])), (a 27, .inl (cI, 6, .inl (iF (μ 8)))), (a 28, .inr (3, [.ref (a 29)])), (a 29, .inl (cI, 48, .inl (iF (μ 9)))), (a 30, .inr (3, [.ref (a 31)])), (a 31, .inl (cI, 48, .inl (iF (μ 10)))), (a 32, .inr (3, [.ref (a 33)])), (a 33, .inl (cI, 48, .inl (iF (μ 11)))), (a 34, .inr (3, [.ref (a 35)])), (a 35, .inl (cI, 48, .inl (iF (μ 12)))), (a 36, .inr (3, [.ref (a 37)])), (a 37, .inl (cI, 6, .inl (iF f13))), (a 38, .inr (3, [.ref (a 39)])), (a 39, .inl (cI, 384, .inl (iF f14))), (a 40, .inr (3, [.ref (a 41)])), (a 41, .inl (cI, 384, .inl (iF f15))), (a 42, .inr (3, [.ref (a 43)])), (a 43, .inl (cI, 8, .inl (iF f16))), (a 44, .inr (3, [.ref (a 45)])), (a 45, .inl (cI, 12, .inl (iF f17)))]
def WSn1 (cI : ClassId) (a : Nat → Nat) (μ : Nat → Int → Int) (f13 : Int → Int) : va_W := [(a 2, .inr (5, [.ref (a 1), .ref (a 26), .ref (a 28), .ref (a 30), .ref (a 32), .ref (a 34), .ref (a 36), .ref (a 38), .ref (a 40), .ref (a 42), .ref (a 44)])), (a 36, .inr (3, [.ref (a 37)])), (a 37, .inl (cI, 6, .inl (iF f13)))]
def WSn8 (cI : ClassId) (a : Nat → Nat) (μ : Nat → Int → Int) : va_W := [(a 2, .inr (5, [.ref (a 1), .ref (a 26), .ref (a 28), .ref (a 30), .ref (a 32), .ref (a 34), .ref (a 36), .ref (a 38), .ref (a 40), .ref (a 42), .ref (a 44)])), (a 26, .inr (3, [.ref (a 27)])), (a 27, .inl (cI, 6, .inl (iF (μ 8))))]
def WSb (cI : ClassId) (a : Nat → Nat) (μ : Nat → Int → Int) : va_W := [(a 2, .inr (5, [.ref (a 1), .ref (a 26), .ref (a 28), .ref (a 30), .ref (a 32), .ref (a 34), .ref (a 36), .ref (a 38), .ref (a 40), .ref (a 42), .ref (a 44)])), (a 36, .inr (3, [.ref (a 37)])), (a 37, .inl (cI, 6, .inl (iF (μ 13)))), (a 3, .inr (4, [.ref (a 2), .ref (a 46), .int (iI ((μ 22) 0)), .int (iI ((μ 23) 0)), .int (iI ((μ 24) 0)), .int (iI ((μ 25) 0)), .int (iI ((μ 26) 0))])), (a 46, .inr (3, [.ref (a 47)])), (a 47, .inl (cI, 8, .inl (iF (μ 18))))]
def WH (cI : ClassId) (a : Nat → Nat) (μ : Nat → Int → Int) : va_W := [(a 3, .inr (4, [.ref (a 2), .ref (a 46), .int (iI ((μ 22) 0)), .int (iI ((μ 23) 0)), .int (iI ((μ 24) 0)), .int (iI ((μ 25) 0)), .int (iI ((μ 26) 0))])), (a 46, .inr (3, [.ref (a 47)])), (a 47, .inl (cI, 8, .inl (iF (μ 18))))]
def WH0 (cI : ClassId) (a : Nat → Nat) (μ : Nat → Int → Int) : va_W := [(a 3, .inr (4, [.ref (a 2), .ref (a 46), .int (iI ((μ 22) 0)), .int (iI ((μ 23) 0)), .int (iI ((μ 24) 0)), .int (iI ((μ 25) 0)), .int (iI ((μ 26) 0))]))]
def WXH (cI : ClassId) (a : Nat → Nat) (μ : Nat → Int → Int) : va_W := [(a 0, .inr (6, [.ref (a 10), .ref (a 12), .ref (a 1), .ref (a 2), .ref (a 3), .ref (a 4), .ref (a 5), .int (iI ((μ 30) 0)), .int (iI ((μ 31) 0)), .int (iI ((μ 32) 0)), .int (iI ((μ 33) 0))])), (a 3, .inr (4, [.ref (a 2), .ref (a 46), .int (iI ((μ 22) 0)), .int (iI ((μ 23) 0)), .int (iI ((μ 24) 0)), .int (iI ((μ 25) 0)), .int (iI ((μ 26) 0))]))]
def WPly (cI : ClassId) (a : Nat → Nat) (μ : Nat → Int → Int) (f31 f32 f33 : Int → Int) : va_W := [(a 0, .inr (6, [.ref (a 10), .ref (a 12), .ref (a 1), .ref (a 2), .ref (a 3), .ref (a 4), .ref (a 5), .int (iI ((μ 30) 0)), .int (iI (f31 0)), .int (iI (f32 0)), .int (iI (f33 0))])), (a 12, .inr (3, [.ref (a 13)])), (a 13, .inl (cI, 8, .inl (iF (μ 1)))), (a 1, .inr (2, [.ref (a 14), .ref (a 16), .ref (a 18), .ref (a 20), .ref (a 22), .ref (a 24)])), (a 14, .inr (3, [.ref (a 15)])), (a 15, .inl (cI, 768, .inl (iF (μ 2)))), (a 16, .inr (3, [.ref (a 17)])), (a 17, .inl (cI, 192, .inl (iF (μ 3)))), (a 18, .inr (3, [.ref (a 19)])), (a 19, .inl (cI, 12, .inl (iF (μ 4)))), (a 20, .inr (3, [.ref (a 21)])), (a 21, .inl (cI, 12, .inl (iF (μ 5)))), (a 22, .inr (3, [.ref (a 23)])), (a 23, .inl (cI, 12, .inl (iF (μ 6)))), (a 24, .inr (3, [.ref (a 25)])), (a 25, .inl (cI, 96, .inl (iF (μ 7)))), (a 5, .inr (1, [.ref (a 10), .ref (a 4), .ref (a 52), .int (iI ((μ 27) 0)), .int (iI ((μ 28) 0)), .int (iI ((μ 29) 0))])), (a 52, .inr (3, [.ref (a 53)])), (a 53, .inl (cI, 8, .inl (iF (μ 21)))), (a 10, .inr (3, [.ref (a 11)])), (a 11, .inl (cI, 8, .inl (iF (μ 0))))]
def WEnt (cI : ClassId) (a : Nat → Nat) (μ : Nat → Int → Int) (f19 f20 f30 : Int → Int) : va_W := [(a 0, .inr (6, [.ref (a 10), .ref (a 12), .ref (a 1), .ref (a 2), .ref (a 3), .ref (a 4), .ref (a 5), .int (iI (f30 0)), .int (iI ((μ 31) 0)), .int (iI ((μ 32) 0)), .int (iI ((μ 33) 0))])), (a 12, .inr (3, [.ref (a 13)])), (a 13, .inl (cI, 8, .inl (iF (μ 1)))), (a 1, .inr (2, [.ref (a 14), .ref (a 16), .ref (a 18), .ref (a 20), .ref (a 22), .ref (a 24)])), (a 14, .inr (3, [.ref (a 15)])), (a 15, .inl (cI, 768, .inl (iF (μ 2)))), (a 16, .inr (3, [.ref (a 17)])), (a 17, .inl (cI, 192, .inl (iF (μ 3)))), (a 18, .inr (3, [.ref (a 19)])), (a 19, .inl (cI, 12, .inl (iF (μ 4)))), (a 20, .inr (3, [.ref (a 21)])), (a 21, .inl (cI, 12, .inl (iF (μ 5)))), (a 22, .inr (3, [.ref (a 23)])), (a 23, .inl (cI, 12, .inl (iF (μ 6)))), (a 24, .inr (3, [.ref (a 25)])), (a 25, .inl (cI, 96, .inl (iF (μ 7)))), (a 2, .inr (5, [.ref (a 1), .ref (a 26), .ref (a 28), .ref (a 30), .ref (a 32), .ref (a 34), .ref (a 36), .ref (a 38), .ref (a 40), .ref (a 42), .ref (a 44)])), (a 26, .inr (3, [.ref (a 27)])), (a 27, .inl (cI, 6, .inl (iF (μ 8)))), (a 28, .inr (3, [.ref (a 29)])), (a 29, .inl (cI, 48, .inl (iF (μ 9)))), (a 30, .inr (3, [.ref (a 31)])), (a 31, .inl (cI, 48, .inl (iF (μ 10)))), (a 32, .inr (3, [.ref (a 33)])), (a 33, .inl (cI, 48, .inl (iF (μ 11)))), (a 34, .inr (3, [.ref (a 35)])), (a 35, .inl (cI, 48, .inl (iF (μ 12)))), (a 36, .inr (3, [.ref (a 37)])), (a 37, .inl (cI, 6, .inl (iF (μ 13)))), (a 38, .inr (3, [.ref (a 39)])), (a 39, .inl (cI, 384, .inl (iF (μ 14)))), (a 40, .inr (3, [.ref (a 41)])), (a 41, .inl (cI, 384, .inl (iF (μ 15)))), (a 42, .inr (3, [.ref (a 43)])), (a 43, .inl (cI, 8, .inl (iF (μ 16)))), (a 44, .inr (3, [.ref (a 45)])), (a 45, .inl (cI, 12, .inl (iF (μ 17)))), (a 3, .inr (4, [.ref (a 2), .ref (a 46), .int (iI ((μ 22) 0)), .int (iI ((μ 23) 0)), .int (iI ((μ 24) 0)), .int (iI ((μ 25) 0)), .int (iI ((μ 26) 0))])), (a 46, .inr (3, [.ref (a 47)])), (a 47, .inl (cI, 8, .inl (iF (μ 18)))), (a 4, .inr (0, [.ref (a 1), .ref (a 48), .ref (a 50)])), (a 48, .inr (3, [.ref (a 49)])), (a 49, .inl (cI, 1536, .inl (iF f19))), (a 50, .inr (3, [.ref (a 51)])), (a 51, .inl (cI, 8, .inl (iF f20)))]
def WShw (cI : ClassId) (a : Nat → Nat) (μ : Nat → Int → Int) : va_W := [(a 12, .inr (3, [.ref (a 13)])), (a 13, .inl (cI, 8, .inl (iF (μ 1)))), (a 1, .inr (2, [.ref (a 14), .ref (a 16), .ref (a 18), .ref (a 20), .ref (a 22), .ref (a 24)])), (a 14, .inr (3, [.ref (a 15)])), (a 15, .inl (cI, 768, .inl (iF (μ 2)))), (a 16, .inr (3, [.ref (a 17)])), (a 17, .inl (cI, 192, .inl (iF (μ 3)))), (a 18, .inr (3, [.ref (a 19)])), (a 19, .inl (cI, 12, .inl (iF (μ 4)))), (a 20, .inr (3, [.ref (a 21)])), (a 21, .inl (cI, 12, .inl (iF (μ 5)))), (a 22, .inr (3, [.ref (a 23)])), (a 23, .inl (cI, 12, .inl (iF (μ 6)))), (a 24, .inr (3, [.ref (a 25)])), (a 25, .inl (cI, 96, .inl (iF (μ 7)))), (a 2, .inr (5, [.ref (a 1), .ref (a 26), .ref (a 28), .ref (a 30), .ref (a 32), .ref (a 34), .ref (a 36), .ref (a 38), .ref (a 40), .ref (a 42), .ref (a 44)])), (a 26, .inr (3, [.ref (a 27)])), (a 27, .inl (cI, 6, .inl (iF (μ 8)))), (a 28, .inr (3, [.ref (a 29)])), (a 29, .inl (cI, 48, .inl (iF (μ 9)))), (a 30, .inr (3, [.ref (a 31)])), (a 31, .inl (cI, 48, .inl (iF (μ 10)))), (a 32, .inr (3, [.ref (a 33)])), (a 33, .inl (cI, 48, .inl (iF (μ 11)))), (a 34, .inr (3, [.ref (a 35)])), (a 35, .inl (cI, 48, .inl (iF (μ 12)))), (a 36, .inr (3, [.ref (a 37)])), (a 37, .inl (cI, 6, .inl (iF (μ 13)))), (a 38, .inr (3, [.ref (a 39)])), (a 39, .inl (cI, 384, .inl (iF (μ 14)))), (a 40, .inr (3, [.ref (a 41)])), (a 41, .inl (cI, 384, .inl (iF (μ 15)))), (a 42, .inr (3, [.ref (a 43)])), (a 43, .inl (cI, 8, .inl (iF (μ 16)))), (a 44, .inr (3, [.ref (a 45)])), (a 45, .inl (cI, 12, .inl (iF (μ 17)))), (a 3, .inr (4, [.ref (a 2), .ref (a 46), .int (iI ((μ 22) 0)), .int (iI ((μ 23) 0)), .int (iI ((μ 24) 0)), .int (iI ((μ 25) 0)), .int (iI ((μ 26) 0))])), (a 46, .inr (3, [.ref (a 47)])), (a 47, .inl (cI, 8, .inl (iF (μ 18))))]
def WLok (cI : ClassId) (a : Nat → Nat) (μ : Nat → Int → Int) (f19 f20 : Int → Int) : va_W := [(a 12, .inr (3, [.ref (a 13)])), (a 13, .inl (cI, 8, .inl (iF (μ 1)))), (a 1, .inr (2, [.ref (a 14), .ref (a 16), .ref (a 18), .ref (a 20), .ref (a 22), .ref (a 24)])), (a 14, .inr (3, [.ref (a 15)])), (a 15, .inl (cI, 768, .inl (iF (μ 2)))), (a 16, .inr (3, [.ref (a 17)])), (a 17, .inl (cI, 192, .inl (iF (μ 3)))), (a 18, .inr (3, [.ref (a 19)])), (a 19, .inl (cI, 12, .inl (iF (μ 4)))), (a 20, .inr (3, [.ref (a 21)])), (a 21, .inl (cI, 12, .inl (iF (μ 5)))), (a 22, .inr (3, [.ref (a 23)])), (a 23, .inl (cI, 12, .inl (iF (μ 6)))), (a 24, .inr (3, [.ref (a 25)])), (a 25, .inl (cI, 96, .inl (iF (μ 7)))), (a 4, .inr (0, [.ref (a 1), .ref (a 48), .ref (a 50)])), (a 48, .inr (3, [.ref (a 49)])), (a 49, .inl (cI, 1536, .inl (iF f19))), (a 50, .inr (3, [.ref (a 51)])), (a 51, .inl (cI, 8, .inl (iF f20)))]
def WLk0 (cI : ClassId) (a : Nat → Nat) (μ : Nat → Int → Int) (f19 f20 : Int → Int) : va_W := [(a 4, .inr (0, [.ref (a 1), .ref (a 48), .ref (a 50)])), (a 48, .inr (3, [.ref (a 49)])), (a 49, .inl (cI, 1536, .inl (iF f19))), (a 50, .inr (3, [.ref (a 51)])), (a 51, .inl (cI, 8, .inl (iF f20)))]
def WMy (cI : ClassId) (a : Nat → Nat) (μ : Nat → Int → Int) (f21 f27 f28 f29 : Int → Int) : va_W := [(a 5, .inr (1, [.ref (a 10), .ref (a 4), .ref (a 52), .int (iI (f27 0)), .int (iI (f28 0)), .int (iI (f29 0))])), (a 52, .inr (3, [.ref (a 53)])), (a 53, .inl (cI, 8, .inl (iF f21))), (a 10, .inr (3, [.ref (a 11)])), (a 11, .inl (cI, 8, .inl (iF (μ 0))))]
def WMem (cI : ClassId) (a : Nat → Nat) (μ : Nat → Int → Int) (f21 f27 f28 f29 : Int → Int) : va_W := [(a 4, .inr (0, [.ref (a 1), .ref (a 48), .ref (a 50)])), (a 48, .inr (3, [.ref (a 49)])), (a 49, .inl (cI, 1536, .inl (iF (μ 19)))), (a 50, .inr (3, [.ref (a 51)])), (a 51, .inl (cI, 8, .inl (iF (μ 20)))), (a 5, .inr (1, [.ref (a 10), .ref (a 4), .ref (a 52), .int (iI (f27 0)), .int (iI (f28 0)), .int (iI (f29 0))])), (a 52, .inr (3, [.ref (a 53)])), (a 53, .inl (cI, 8, .inl (iF f21))), (a 10, .inr (3, [.ref (a 11)])), (a 11, .inl (cI, 8, .inl (iF (μ 0))))]
def WAll (cI : ClassId) (a : Nat → Nat) (μ : Nat → Int → Int) : va_W := [(a 0, .inr (6, [.ref (a 10), .ref (a 12), .ref (a 1), .ref (a 2), .ref (a 3), .ref (a 4), .ref (a 5), .int (iI ((μ 30) 0)), .int (iI ((μ 31) 0)), .int (iI ((μ 32) 0)), .int (iI ((μ 33) 0))])), (a 12, .inr (3, [.ref (a 13)])), (a 13, .inl (cI, 8, .inl (iF (μ 1)))), (a 1, .inr (2, [.ref (a 14), .ref (a 16), .ref (a 18), .ref (a 20), .ref (a 22), .ref (a 24)])), (a 14, .inr (3, [.ref (a 15)])), (a 15, .inl (cI, 768, .inl (iF (μ 2)))), (a 16, .inr (3, [.ref (a 17)])), (a 17, .inl (cI, 192, .inl (iF (μ 3)))), (a 18, .inr (3, [.ref (a 19)])), (a 19, .inl (cI, 12, .inl (iF (μ 4)))), (a 20, .inr (3, [.ref (a 21)])), (a 21, .inl (cI, 12, .inl (iF (μ 5)))), (a 22, .inr (3, [.ref (a 23)])), (a 23, .inl (cI, 12, .inl (iF (μ 6)))), (a 24, .inr (3, [.ref (a 25)])), (a 25, .inl (cI, 96, .inl (iF (μ 7)))), (a 2, .inr (5, [.ref (a 1), .ref (a 26), .ref (a 28), .ref (a 30), .ref (a 32), .ref (a 34), .ref (a 36), .ref (a 38), .ref (a 40), .ref (a 42), .ref (a 44)])), (a 26, .inr (3, [.ref (a 27)])), (a 27, .inl (cI, 6, .inl (iF (μ 8)))), (a 28, .inr (3, [.ref (a 29)])), (a 29, .inl (cI, 48, .inl (iF (μ 9)))), (a 30, .inr (3, [.ref (a 31)])), (a 31, .inl (cI, 48, .inl (iF (μ 10)))), (a 32, .inr (3, [.ref (a 33)])), (a 33, .inl (cI, 48, .inl (iF (μ 11)))), (a 34, .inr (3, [.ref (a 35)])), (a 35, .inl (cI, 48, .inl (iF (μ 12)))), (a 36, .inr (3, [.ref (a 37)])), (a 37, .inl (cI, 6, .inl (iF (μ 13)))), (a 38, .inr (3, [.ref (a 39)])), (a 39, .inl (cI, 384, .inl (iF (μ 14)))), (a 40, .inr (3, [.ref (a 41)])), (a 41, .inl (cI, 384, .inl (iF (μ 15)))), (a 42, .inr (3, [.ref (a 43)])), (a 43, .inl (cI, 8, .inl (iF (μ 16)))), (a 44, .inr (3, [.ref (a 45)])), (a 45, .inl (cI, 12, .inl (iF (μ 17)))), (a 3, .inr (4, [.ref (a 2), .ref (a 46), .int (iI ((μ 22) 0)), .int (iI ((μ 23) 0)), .int (iI ((μ 24) 0)), .int (iI ((μ 25) 0)), .int (iI ((μ 26) 0))])), (a 46, .inr (3, [.ref (a 47)])), (a 47, .inl (cI, 8, .inl (iF (μ 18)))), (a 4, .inr (0, [.ref (a 1), .ref (a 48), .ref (a 50)])), (a 48, .inr (3, [.ref (a 49)])), (a 49, .inl (cI, 1536, .inl (iF (μ 19)))), (a 50, .inr (3, [.ref (a 51)])), (a 51, .inl (cI, 8, .inl (iF (μ 20)))), (a 5, .inr (1, [.ref (a 10), .ref (a 4), .ref (a 52), .int (iI ((μ 27) 0)), .int (iI ((μ 28) 0)), .int (iI ((μ 29) 0))])), (a 52, .inr (3, [.ref (a 53)])), (a 53, .inl (cI, 8, .inl (iF (μ 21)))), (a 10, .inr (3, [.ref (a 11)])), (a 11, .inl (cI, 8, .inl (iF (μ 0))))]
abbrev rmX0_useAfter : Room := { frames := 1, cells := 0, slots := 0, locals := 21 }
abbrev rmX0_forget : Room := { frames := 2, cells := 0, slots := 0, locals := 44 }
abbrev rmX0_noteBar : Room := { frames := 3, cells := 0, slots := 0, locals := 72 }
abbrev rmX0_noteDueBar : Room := { frames := 3, cells := 0, slots := 0, locals := 72 }
abbrev rmX0_noteStep : Room := { frames := 2, cells := 0, slots := 0, locals := 47 }
abbrev rmX0_keepUses : Room := { frames := 1, cells := 0, slots := 0, locals := 23 }
abbrev rmX1_empty : Room := { frames := 2, cells := 0, slots := 0, locals := 44 }
abbrev rmX1_countPages : Room := { frames := 1, cells := 0, slots := 0, locals := 21 }
abbrev rmX1_hasAllPages : Room := { frames := 1, cells := 0, slots := 0, locals := 21 }
abbrev rmX1_handNumber : Room := { frames := 0, cells := 0, slots := 0, locals := 0 }
abbrev rmX1_load : Room := { frames := 4, cells := 0, slots := 0, locals := 92 }
abbrev rmX1_takeInHand : Room := { frames := 3, cells := 0, slots := 0, locals := 69 }
abbrev rmX1_workOn : Room := { frames := 2, cells := 0, slots := 0, locals := 45 }
abbrev rmX1_addPage : Room := { frames := 1, cells := 0, slots := 0, locals := 23 }
abbrev rmX1_findNearest : Room := { frames := 2, cells := 0, slots := 0, locals := 43 }
abbrev rmX1_findFarthest : Room := { frames := 2, cells := 0, slots := 0, locals := 43 }
abbrev rmX2_replaceStep : Room := { frames := 1, cells := 0, slots := 0, locals := 23 }
abbrev rmX2_replaceFill : Room := { frames := 1, cells := 0, slots := 0, locals := 23 }
abbrev rmX2_replaceFeel : Room := { frames := 1, cells := 0, slots := 0, locals := 23 }
abbrev rmX2_replaceFrozen : Room := { frames := 1, cells := 0, slots := 0, locals := 23 }
abbrev rmX2_codeFor : Room := { frames := 1, cells := 0, slots := 0, locals := 21 }
abbrev rmX2_tuneIn : Room := { frames := 1, cells := 0, slots := 0, locals := 21 }
abbrev rmX2_sampleAt : Room := { frames := 1, cells := 0, slots := 0, locals := 22 }
abbrev rmX2_tickOf : Room := { frames := 1, cells := 0, slots := 0, locals := 21 }
abbrev rmX2_stepAt : Room := { frames := 2, cells := 0, slots := 0, locals := 44 }
abbrev rmX2_countBySteps : Room := { frames := 3, cells := 0, slots := 0, locals := 71 }
abbrev rmX2_countByTicks : Room := { frames := 3, cells := 0, slots := 0, locals := 71 }
abbrev rmX2_countStep : Room := { frames := 2, cells := 0, slots := 0, locals := 47 }
abbrev rmX2_stepIndex : Room := { frames := 0, cells := 0, slots := 0, locals := 0 }
abbrev rmX2_fillIndex : Room := { frames := 0, cells := 0, slots := 0, locals := 0 }
abbrev rmX3_get : Room := { frames := 0, cells := 0, slots := 0, locals := 0 }
abbrev rmX3_replace : Room := { frames := 0, cells := 0, slots := 0, locals := 0 }
abbrev rmX3_setAll : Room := { frames := 1, cells := 0, slots := 0, locals := 23 }
abbrev rmX4_isFull : Room := { frames := 0, cells := 0, slots := 0, locals := 0 }
abbrev rmX4_append : Room := { frames := 1, cells := 0, slots := 0, locals := 23 }
abbrev rmX4_removeAll : Room := { frames := 0, cells := 0, slots := 0, locals := 0 }
abbrev rmX4_canBegin : Room := { frames := 3, cells := 0, slots := 0, locals := 63 }
abbrev rmX4_countBars : Room := { frames := 3, cells := 0, slots := 0, locals := 63 }
abbrev rmX4_isPlayed : Room := { frames := 0, cells := 0, slots := 0, locals := 0 }
abbrev rmX4_begin : Room := { frames := 0, cells := 0, slots := 0, locals := 0 }
abbrev rmX4_goToNextTick : Room := { frames := 3, cells := 0, slots := 0, locals := 63 }
abbrev rmX4_goToNextSong : Room := { frames := 0, cells := 0, slots := 0, locals := 0 }
abbrev rmX4_dueTick : Room := { frames := 0, cells := 0, slots := 0, locals := 0 }
abbrev rmX4_duePlace : Room := { frames := 0, cells := 0, slots := 0, locals := 0 }
abbrev rmX4_dueNumber : Room := { frames := 0, cells := 0, slots := 0, locals := 0 }
abbrev rmX4_codeAhead : Room := { frames := 3, cells := 0, slots := 0, locals := 68 }
abbrev rmX4_barsAt : Room := { frames := 2, cells := 0, slots := 0, locals := 42 }
abbrev rmX5_countEntries : Room := { frames := 1, cells := 0, slots := 0, locals := 21 }
abbrev rmX5_countBars : Room := { frames := 1, cells := 0, slots := 0, locals := 21 }
abbrev rmX5_codeOf : Room := { frames := 2, cells := 0, slots := 0, locals := 45 }
abbrev rmX5_append : Room := { frames := 3, cells := 0, slots := 0, locals := 72 }
abbrev rmX5_giveJump : Room := { frames := 3, cells := 0, slots := 0, locals := 72 }
abbrev rmX5_layBars : Room := { frames := 2, cells := 0, slots := 0, locals := 48 }
abbrev rmX5_layBar : Room := { frames := 1, cells := 0, slots := 0, locals := 23 }
abbrev rmX5_leaveEntry : Room := { frames := 1, cells := 0, slots := 0, locals := 23 }
abbrev rmX6_setSize : Room := { frames := 8, cells := 3, slots := 18, locals := 132 }
abbrev rmX6_tune : Room := { frames := 8, cells := 2, slots := 12, locals := 132 }
abbrev rmX6_setStep : Room := { frames := 8, cells := 5, slots := 30, locals := 132 }
abbrev rmX6_setFill : Room := { frames := 8, cells := 5, slots := 30, locals := 132 }
abbrev rmX6_setFeel : Room := { frames := 8, cells := 4, slots := 24, locals := 132 }
abbrev rmX6_freeze : Room := { frames := 8, cells := 1, slots := 6, locals := 132 }
abbrev rmX6_addEntry : Room := { frames := 8, cells := 5, slots := 30, locals := 132 }
abbrev rmX6_jump : Room := { frames := 8, cells := 5, slots := 30, locals := 132 }
abbrev rmX6_bars : Room := { frames := 8, cells := 1, slots := 6, locals := 132 }
abbrev rmX6_barAt : Room := { frames := 8, cells := 2, slots := 12, locals := 132 }
abbrev rmX6_beats : Room := { frames := 8, cells := 1, slots := 6, locals := 132 }
abbrev rmX6_beatsByTicks : Room := { frames := 8, cells := 1, slots := 6, locals := 132 }
abbrev rmX6_addToSet : Room := { frames := 8, cells := 3, slots := 18, locals := 132 }
abbrev rmX6_clearSet : Room := { frames := 7, cells := 1, slots := 6, locals := 110 }
abbrev rmX6_start : Room := { frames := 7, cells := 2, slots := 12, locals := 117 }
abbrev rmX6_tick : Room := { frames := 7, cells := 2, slots := 12, locals := 139 }
abbrev rmX6_skip : Room := { frames := 7, cells := 1, slots := 6, locals := 117 }
abbrev rmX6_place : Room := { frames := 1, cells := 0, slots := 0, locals := 20 }
abbrev rmX6_loaded : Room := { frames := 8, cells := 1, slots := 6, locals := 132 }
abbrev rmX6_inHand : Room := { frames := 1, cells := 0, slots := 0, locals := 20 }
abbrev rmX6_nextUse : Room := { frames := 8, cells := 1, slots := 6, locals := 132 }
abbrev rmX6_sounds : Room := { frames := 0, cells := 0, slots := 0, locals := 0 }
abbrev rmX6_misses : Room := { frames := 0, cells := 0, slots := 0, locals := 0 }
abbrev rmX6_soundNumber : Room := { frames := 0, cells := 0, slots := 0, locals := 0 }
abbrev rmX6_passTick : Room := { frames := 5, cells := 0, slots := 0, locals := 117 }
abbrev rmX6_playStep : Room := { frames := 3, cells := 0, slots := 0, locals := 68 }
abbrev rmX6_playSample : Room := { frames := 2, cells := 0, slots := 0, locals := 46 }
abbrev rmX6_enterBar : Room := { frames := 4, cells := 0, slots := 0, locals := 95 }
abbrev rmX6_needIndex : Room := { frames := 6, cells := 1, slots := 6, locals := 90 }
abbrev rmX6_needSample : Room := { frames := 7, cells := 1, slots := 6, locals := 112 }
abbrev rmX6_needPattern : Room := { frames := 7, cells := 1, slots := 6, locals := 112 }
abbrev rmX6_needSong : Room := { frames := 7, cells := 1, slots := 6, locals := 112 }
abbrev rmX6_needRange : Room := { frames := 6, cells := 1, slots := 6, locals := 90 }
abbrev rmX6_needPlayed : Room := { frames := 6, cells := 1, slots := 6, locals := 90 }
abbrev rmX6_needNotPlayed : Room := { frames := 6, cells := 1, slots := 6, locals := 90 }
abbrev rmJ9_max_7cf53 : Room := { frames := 0, cells := 0, slots := 0, locals := 0 }
abbrev rmJ7_fill_53178 : Room := { frames := 0, cells := 0, slots := 0, locals := 0 }
