/-- what 'tell' leaves, without a branch -/
def tlz (z : Nat → Nat) : Nat := if nI (z 4) = 100 then z 4 else z 4 + 1
def tla (z : Nat → Nat) (f : Nat → Int32) (x : Int32) : Nat → Int32 := if nI (z 4) = 100 then f else upd f (z 4) x
theorem va_up_id {α : Type} (f : Nat → α) (k : Nat) : va_up f k (f k) = f := by
  funext j
  by_cases h : j = k
  · subst h; rw [va_up_self]
  · rw [va_up_ne _ _ h]
theorem tell_eq {th : Int32} {z : Nat → Nat} {a : Nat → Nat → Int32} {x y : Int32} : s_M_tell th z a x y = (0, th, va_up z 4 (tlz z), va_up (va_up a 26 (tla z (a 26) x)) 27 (tla z (a 27) y)) := by
  unfold s_M_tell tlz tla
  by_cases h : nI (z 4) = 100
  · simp only [if_pos h]
    rw [va_up_id, va_up_id, va_up_id]
  · simp only [if_neg h]
theorem px_eq {j : Nat} {x : Int32} (h : 0 ≤ x) : 8 * nI j + x = nI (8 * j + x.toNatClampNeg) := by
  obtain ⟨k, hk, rfl⟩ := nI_of (x := x) (Int32.not_lt.mpr h)
  rw [nI_clamp hk]
  exact (congrArg (· + nI k) (pk_mul 8 j)).trans (nI_add (8 * j) k)
theorem px_lt {x : Int32} (h : 0 ≤ x) {n : Nat} {y : Int32} (hy : x < y) (hn : y ≤ nI n) (h31 : n < 2 ^ 31) : x.toNatClampNeg < n := by
  obtain ⟨k, hk, rfl⟩ := nI_of (x := x) (Int32.not_lt.mpr h)
  rw [nI_clamp hk]
  rw [Int32.lt_iff_toInt_lt, nI_toInt hk] at hy
  rw [Int32.le_iff_toInt_le, nI_toInt h31] at hn
  omega
theorem px_s {x : Int32} (h : 0 ≤ x) (h8 : x < 8) : (x + 1).toNatClampNeg = x.toNatClampNeg + 1 := by
  obtain ⟨k, hk, rfl⟩ := nI_of (x := x) (Int32.not_lt.mpr h)
  rw [Int32.lt_iff_toInt_lt, nI_toInt hk, T8] at h8
  rw [nI_1, nI_clamp (by omega), nI_clamp hk]
