/-! THE CLASS's world: 0 the object, 1 rules, 2 issues, 3 byOrdinal, 4 .. 6 round, 7 .. 9 notes, 10 .. 12 volumes, 13 .. 16 latest, p + 17 the rule p, 27 + 4 i the issue i, its routing, persons, days. z: issues, round, notes, volumes, rows of the statement; bo: the order by ordinals; g i: the fields of issue i (pattern, ordinal, expected, replacement, state, claims, claimedOn, copies, came, volume, replacedBy, cents, then of its routing size, place, since); q: first, again, most, round's two, notes' two, members, ends, the statement's three; pp, dd: persons and days. -/
def issF (bk : Nat → Nat) (i : Nat) (h : Nat → Int32) : List Value := [.int (nI i), .int (h 0), .int (h 1), .int (h 2), .int (h 3), .ref (bk (28 + 4 * i)), .int (h 4), .int (h 5), .int (h 6), .int (h 7), .int (h 8), .int (h 9), .int (h 10), .int (h 11)]
def rouF (bk : Nat → Nat) (i : Nat) (h : Nat → Int32) : List Value := [.ref (bk (29 + 4 * i)), .ref (bk (30 + 4 * i)), .int (h 12), .int (h 13), .int (h 14)]
def CWi (cs : Nat → ClassId) (bk : Nat → Nat) (g pp dd : Nat → Nat → Int32) (r i : Nat) : va_E := match r with
  | 0 => .inr (2, issF bk i (g i))
  | 1 => .inr (3, rouF bk i (g i))
  | 2 => .inl (cs 0, 8, .inl (pp i))
  | _ => .inl (cs 0, 8, .inl (dd i))
def CWf (cs : Nat → ClassId) (bk : Nat → Nat) (z bo : Nat → Nat) (q : Nat → Nat → Int32) (k : Nat) : va_E := match k with
  | 0 => .inr (0, [.ref (bk 1), .ref (bk 2), .ref (bk 3), .int (nI (z 0)), .ref (bk 4), .ref (bk 7), .ref (bk 10), .ref (bk 13)])
  | 1 => .inl (cs 2, 10, .inr (.inr (.inr (.inr (fun j => if j < 10 then some (bk (j + 17)) else none)))))
  | 2 => .inl (cs 3, 200, .inr (.inr (.inr (.inr (fun j => if j < z 0 then some (bk (27 + 4 * j)) else none)))))
  | 3 => .inl (cs 3, 200, .inr (.inr (.inr (.inr (fun j => if j < z 0 then some (bk (27 + 4 * bo j)) else none)))))
  | 4 => .inr (4, [.ref (bk 5), .ref (bk 6), .int (nI (z 1))])
  | 5 => .inl (cs 0, 200, .inl (q 3))
  | 6 => .inl (cs 0, 200, .inl (q 4))
  | 7 => .inr (4, [.ref (bk 8), .ref (bk 9), .int (nI (z 2))])
  | 8 => .inl (cs 0, 100, .inl (q 5))
  | 9 => .inl (cs 0, 100, .inl (q 6))
  | 10 => .inr (5, [.ref (bk 11), .ref (bk 12), .int (nI (z 3))])
  | 11 => .inl (cs 0, 200, .inl (q 7))
  | 12 => .inl (cs 0, 41, .inl (q 8))
  | 13 => .inr (6, [.ref (bk 14), .ref (bk 15), .ref (bk 16), .int (nI (z 4))])
  | 14 => .inl (cs 0, 200, .inl (q 9))
  | 15 => .inl (cs 0, 200, .inl (q 10))
  | 16 => .inl (cs 0, 200, .inl (q 11))
  | k => .inr (1, [.int (q 0 (k - 17)), .int (q 1 (k - 17)), .int (q 2 (k - 17))])
def CW (cs : Nat → ClassId) (z bo : Nat → Nat) (g q pp dd : Nat → Nat → Int32) (bk : Nat → Nat) : Nat → va_E := fun k => if k < 27 then CWf cs bk z bo q k else CWi cs bk g pp dd ((k - 27) % 4) ((k - 27) / 4)
theorem CW_iss {cs : Nat → ClassId} {z bo : Nat → Nat} {g q pp dd : Nat → Nat → Int32} {bk : Nat → Nat} (i : Nat) : CW cs z bo g q pp dd bk (27 + 4 * i) = .inr (2, issF bk i (g i)) := by
  unfold CW; rw [if_neg (by omega), show (27 + 4 * i - 27) % 4 = 0 by omega, show (27 + 4 * i - 27) / 4 = i by omega]; rfl
theorem CW_rou {cs : Nat → ClassId} {z bo : Nat → Nat} {g q pp dd : Nat → Nat → Int32} {bk : Nat → Nat} (i : Nat) : CW cs z bo g q pp dd bk (28 + 4 * i) = .inr (3, rouF bk i (g i)) := by
  unfold CW; rw [if_neg (by omega), show (28 + 4 * i - 27) % 4 = 1 by omega, show (28 + 4 * i - 27) / 4 = i by omega]; rfl
theorem CW_per {cs : Nat → ClassId} {z bo : Nat → Nat} {g q pp dd : Nat → Nat → Int32} {bk : Nat → Nat} (i : Nat) : CW cs z bo g q pp dd bk (29 + 4 * i) = .inl (cs 0, 8, .inl (pp i)) := by
  unfold CW; rw [if_neg (by omega), show (29 + 4 * i - 27) % 4 = 2 by omega, show (29 + 4 * i - 27) / 4 = i by omega]; rfl
theorem CW_day {cs : Nat → ClassId} {z bo : Nat → Nat} {g q pp dd : Nat → Nat → Int32} {bk : Nat → Nat} (i : Nat) : CW cs z bo g q pp dd bk (30 + 4 * i) = .inl (cs 0, 8, .inl (dd i)) := by
  unfold CW; rw [if_neg (by omega), show (30 + 4 * i - 27) % 4 = 3 by omega, show (30 + 4 * i - 27) / 4 = i by omega]; rfl
theorem CW_rul {cs : Nat → ClassId} {z bo : Nat → Nat} {g q pp dd : Nat → Nat → Int32} {bk : Nat → Nat} (p : Nat) (hp : p < 10) : CW cs z bo g q pp dd bk (p + 17) = .inr (1, [.int (q 0 p), .int (q 1 p), .int (q 2 p)]) := by
  unfold CW; rw [if_pos (by omega)]; rfl
theorem CW_lo {cs : Nat → ClassId} {z bo : Nat → Nat} {g q pp dd : Nat → Nat → Int32} {bk : Nat → Nat} {k : Nat} (h : k < 27) : CW cs z bo g q pp dd bk k = CWf cs bk z bo q k := if_pos h
theorem CW_hi {cs : Nat → ClassId} {z bo : Nat → Nat} {g q pp dd : Nat → Nat → Int32} {bk : Nat → Nat} {k : Nat} (h : ¬ k < 27) : CW cs z bo g q pp dd bk k = CWi cs bk g pp dd ((k - 27) % 4) ((k - 27) / 4) := if_neg h
theorem CW_setI {cs : Nat → ClassId} {z bo : Nat → Nat} {g q pp dd : Nat → Nat → Int32} {bk : Nat → Nat} (i : Nat) (h : Nat → Int32) (h1 : h 12 = g i 12) (h2 : h 13 = g i 13) (h3 : h 14 = g i 14) : va_up (CW cs z bo g q pp dd bk) (27 + 4 * i) (.inr (2, issF bk i h)) = CW cs z bo (va_up g i h) q pp dd bk := by
  funext k
  by_cases hk : k = 27 + 4 * i
  · subst hk
    rw [va_up_self, CW_iss, va_up_self]
  · rw [va_up_ne _ _ hk]
    by_cases h27 : k < 27
    · rw [CW_lo h27, CW_lo h27]
    · rw [CW_hi h27, CW_hi h27]
      have hr : (k - 27) % 4 < 4 := Nat.mod_lt _ (by decide)
      have hd : k = 27 + 4 * ((k - 27) / 4) + (k - 27) % 4 := by omega
      generalize (k - 27) % 4 = r at hr hd ⊢
      generalize (k - 27) / 4 = t at hd ⊢
      by_cases ht : t = i
      · subst ht
        match r, hr with
        | 0, _ => exact absurd hd (by omega)
        | 1, _ => simp only [CWi, rouF, va_up_self, h1, h2, h3]
        | 2, _ => rfl
        | 3, _ => rfl
      · match r, hr with
        | 0, _ => simp only [CWi, va_up_ne _ _ ht]
        | 1, _ => simp only [CWi, va_up_ne _ _ ht]
        | 2, _ => simp only [CWi, va_up_ne _ _ ht]
        | 3, _ => simp only [CWi, va_up_ne _ _ ht]
theorem CW_setR {cs : Nat → ClassId} {z bo : Nat → Nat} {g q pp dd : Nat → Nat → Int32} {bk : Nat → Nat} (i : Nat) (h : Nat → Int32) (h1 : ∀ f, f < 12 → h f = g i f) : va_up (CW cs z bo g q pp dd bk) (28 + 4 * i) (.inr (3, rouF bk i h)) = CW cs z bo (va_up g i h) q pp dd bk := by
  funext k
  by_cases hk : k = 28 + 4 * i
  · subst hk
    rw [va_up_self, CW_rou, va_up_self]
  · rw [va_up_ne _ _ hk]
    by_cases h27 : k < 27
    · rw [CW_lo h27, CW_lo h27]
    · rw [CW_hi h27, CW_hi h27]
      have hr : (k - 27) % 4 < 4 := Nat.mod_lt _ (by decide)
      have hd : k = 27 + 4 * ((k - 27) / 4) + (k - 27) % 4 := by omega
      generalize (k - 27) % 4 = r at hr hd ⊢
      generalize (k - 27) / 4 = t at hd ⊢
      by_cases ht : t = i
      · subst ht
        match r, hr with
        | 0, _ => simp only [CWi, issF, va_up_self, h1 0 (by decide), h1 1 (by decide), h1 2 (by decide), h1 3 (by decide), h1 4 (by decide), h1 5 (by decide), h1 6 (by decide), h1 7 (by decide), h1 8 (by decide), h1 9 (by decide), h1 10 (by decide), h1 11 (by decide)]
        | 1, _ => exact absurd hd (by omega)
        | 2, _ => rfl
        | 3, _ => rfl
      · match r, hr with
        | 0, _ => simp only [CWi, va_up_ne _ _ ht]
        | 1, _ => simp only [CWi, va_up_ne _ _ ht]
        | 2, _ => simp only [CWi, va_up_ne _ _ ht]
        | 3, _ => simp only [CWi, va_up_ne _ _ ht]
theorem CW_setP {cs : Nat → ClassId} {z bo : Nat → Nat} {g q pp dd : Nat → Nat → Int32} {bk : Nat → Nat} (i : Nat) (h : Nat → Int32)  : va_up (CW cs z bo g q pp dd bk) (29 + 4 * i) (.inl (cs 0, 8, .inl h)) = CW cs z bo g q (va_up pp i h) dd bk := by
  funext k
  by_cases hk : k = 29 + 4 * i
  · subst hk
    rw [va_up_self, CW_per, va_up_self]
  · rw [va_up_ne _ _ hk]
    by_cases h27 : k < 27
    · rw [CW_lo h27, CW_lo h27]
    · rw [CW_hi h27, CW_hi h27]
      have hr : (k - 27) % 4 < 4 := Nat.mod_lt _ (by decide)
      have hd : k = 27 + 4 * ((k - 27) / 4) + (k - 27) % 4 := by omega
      generalize (k - 27) % 4 = r at hr hd ⊢
      generalize (k - 27) / 4 = t at hd ⊢
      by_cases ht : t = i
      · subst ht
        match r, hr with
        | 0, _ => rfl
        | 1, _ => rfl
        | 2, _ => exact absurd hd (by omega)
        | 3, _ => rfl
      · match r, hr with
        | 0, _ => simp only [CWi, va_up_ne _ _ ht]
        | 1, _ => simp only [CWi, va_up_ne _ _ ht]
        | 2, _ => simp only [CWi, va_up_ne _ _ ht]
        | 3, _ => simp only [CWi, va_up_ne _ _ ht]
theorem CW_setD {cs : Nat → ClassId} {z bo : Nat → Nat} {g q pp dd : Nat → Nat → Int32} {bk : Nat → Nat} (i : Nat) (h : Nat → Int32)  : va_up (CW cs z bo g q pp dd bk) (30 + 4 * i) (.inl (cs 0, 8, .inl h)) = CW cs z bo g q pp (va_up dd i h) bk := by
  funext k
  by_cases hk : k = 30 + 4 * i
  · subst hk
    rw [va_up_self, CW_day, va_up_self]
  · rw [va_up_ne _ _ hk]
    by_cases h27 : k < 27
    · rw [CW_lo h27, CW_lo h27]
    · rw [CW_hi h27, CW_hi h27]
      have hr : (k - 27) % 4 < 4 := Nat.mod_lt _ (by decide)
      have hd : k = 27 + 4 * ((k - 27) / 4) + (k - 27) % 4 := by omega
      generalize (k - 27) % 4 = r at hr hd ⊢
      generalize (k - 27) / 4 = t at hd ⊢
      by_cases ht : t = i
      · subst ht
        match r, hr with
        | 0, _ => rfl
        | 1, _ => rfl
        | 2, _ => rfl
        | 3, _ => exact absurd hd (by omega)
      · match r, hr with
        | 0, _ => simp only [CWi, va_up_ne _ _ ht]
        | 1, _ => simp only [CWi, va_up_ne _ _ ht]
        | 2, _ => simp only [CWi, va_up_ne _ _ ht]
        | 3, _ => simp only [CWi, va_up_ne _ _ ht]
theorem CW_setU {cs : Nat → ClassId} {z bo : Nat → Nat} {g q pp dd : Nat → Nat → Int32} {bk : Nat → Nat} (p : Nat) (hp : p < 10) (x y w : Int32) : va_up (CW cs z bo g q pp dd bk) (p + 17) (.inr (1, [.int x, .int y, .int w])) = CW cs z bo g (va_up (va_up (va_up q 0 (upd (q 0) p x)) 1 (upd (q 1) p y)) 2 (upd (q 2) p w)) pp dd bk := by
  funext k
  by_cases hk : k = p + 17
  · subst hk
    rw [va_up_self, CW_rul p hp]
    show _ = Sum.inr (1, [Value.int (upd (q 0) p x p), Value.int (upd (q 1) p y p), Value.int (upd (q 2) p w p)])
    rw [pk_us, pk_us, pk_us]
  · rw [va_up_ne _ _ hk]
    by_cases h27 : k < 27
    · rw [CW_lo h27, CW_lo h27]
      match k, h27, hk with
      | 0, _, _ => rfl
      | 1, _, _ => rfl
      | 2, _, _ => rfl
      | 3, _, _ => rfl
      | 4, _, _ => rfl
      | 5, _, _ => rfl
      | 6, _, _ => rfl
      | 7, _, _ => rfl
      | 8, _, _ => rfl
      | 9, _, _ => rfl
      | 10, _, _ => rfl
      | 11, _, _ => rfl
      | 12, _, _ => rfl
      | 13, _, _ => rfl
      | 14, _, _ => rfl
      | 15, _, _ => rfl
      | 16, _, _ => rfl
      | j + 17, _, hk =>
        have hj : j ≠ p := fun e => hk (by rw [e])
        show Sum.inr (1, [Value.int (q 0 j), Value.int (q 1 j), Value.int (q 2 j)]) = Sum.inr (1, [Value.int (upd (q 0) p x j), Value.int (upd (q 1) p y j), Value.int (upd (q 2) p w j)])
        rw [pk_un hj, pk_un hj, pk_un hj]
    · rw [CW_hi h27, CW_hi h27]
theorem CW_set4 {cs : Nat → ClassId} {z bo : Nat → Nat} {g q pp dd : Nat → Nat → Int32} {bk : Nat → Nat} (x : Nat) : va_up (CW cs z bo g q pp dd bk) 4 (.inr (4, [.ref (bk 5), .ref (bk 6), .int (nI x)])) = CW cs (va_up z 1 x) bo g q pp dd bk := by
  funext k
  by_cases hk : k = 4
  · subst hk; rw [va_up_self, CW_lo (by decide)]; rfl
  · rw [va_up_ne _ _ hk]
    by_cases h27 : k < 27
    · rw [CW_lo h27, CW_lo h27]
      match k, h27, hk with
      | 0, _, _ => rfl
      | 1, _, _ => rfl
      | 2, _, _ => rfl
      | 3, _, _ => rfl
      | 4, _, h => exact absurd rfl h
      | 5, _, _ => rfl
      | 6, _, _ => rfl
      | 7, _, _ => rfl
      | 8, _, _ => rfl
      | 9, _, _ => rfl
      | 10, _, _ => rfl
      | 11, _, _ => rfl
      | 12, _, _ => rfl
      | 13, _, _ => rfl
      | 14, _, _ => rfl
      | 15, _, _ => rfl
      | 16, _, _ => rfl
      | j + 17, _, _ => rfl
    · rw [CW_hi h27, CW_hi h27]
theorem CW_set7 {cs : Nat → ClassId} {z bo : Nat → Nat} {g q pp dd : Nat → Nat → Int32} {bk : Nat → Nat} (x : Nat) : va_up (CW cs z bo g q pp dd bk) 7 (.inr (4, [.ref (bk 8), .ref (bk 9), .int (nI x)])) = CW cs (va_up z 2 x) bo g q pp dd bk := by
  funext k
  by_cases hk : k = 7
  · subst hk; rw [va_up_self, CW_lo (by decide)]; rfl
  · rw [va_up_ne _ _ hk]
    by_cases h27 : k < 27
    · rw [CW_lo h27, CW_lo h27]
      match k, h27, hk with
      | 0, _, _ => rfl
      | 1, _, _ => rfl
      | 2, _, _ => rfl
      | 3, _, _ => rfl
      | 4, _, _ => rfl
      | 5, _, _ => rfl
      | 6, _, _ => rfl
      | 7, _, h => exact absurd rfl h
      | 8, _, _ => rfl
      | 9, _, _ => rfl
      | 10, _, _ => rfl
      | 11, _, _ => rfl
      | 12, _, _ => rfl
      | 13, _, _ => rfl
      | 14, _, _ => rfl
      | 15, _, _ => rfl
      | 16, _, _ => rfl
      | j + 17, _, _ => rfl
    · rw [CW_hi h27, CW_hi h27]
theorem CW_set10 {cs : Nat → ClassId} {z bo : Nat → Nat} {g q pp dd : Nat → Nat → Int32} {bk : Nat → Nat} (x : Nat) : va_up (CW cs z bo g q pp dd bk) 10 (.inr (5, [.ref (bk 11), .ref (bk 12), .int (nI x)])) = CW cs (va_up z 3 x) bo g q pp dd bk := by
  funext k
  by_cases hk : k = 10
  · subst hk; rw [va_up_self, CW_lo (by decide)]; rfl
  · rw [va_up_ne _ _ hk]
    by_cases h27 : k < 27
    · rw [CW_lo h27, CW_lo h27]
      match k, h27, hk with
      | 0, _, _ => rfl
      | 1, _, _ => rfl
      | 2, _, _ => rfl
      | 3, _, _ => rfl
      | 4, _, _ => rfl
      | 5, _, _ => rfl
      | 6, _, _ => rfl
      | 7, _, _ => rfl
      | 8, _, _ => rfl
      | 9, _, _ => rfl
      | 10, _, h => exact absurd rfl h
      | 11, _, _ => rfl
      | 12, _, _ => rfl
      | 13, _, _ => rfl
      | 14, _, _ => rfl
      | 15, _, _ => rfl
      | 16, _, _ => rfl
      | j + 17, _, _ => rfl
    · rw [CW_hi h27, CW_hi h27]
theorem CW_set13 {cs : Nat → ClassId} {z bo : Nat → Nat} {g q pp dd : Nat → Nat → Int32} {bk : Nat → Nat} (x : Nat) : va_up (CW cs z bo g q pp dd bk) 13 (.inr (6, [.ref (bk 14), .ref (bk 15), .ref (bk 16), .int (nI x)])) = CW cs (va_up z 4 x) bo g q pp dd bk := by
  funext k
  by_cases hk : k = 13
  · subst hk; rw [va_up_self, CW_lo (by decide)]; rfl
  · rw [va_up_ne _ _ hk]
    by_cases h27 : k < 27
    · rw [CW_lo h27, CW_lo h27]
      match k, h27, hk with
      | 0, _, _ => rfl
      | 1, _, _ => rfl
      | 2, _, _ => rfl
      | 3, _, _ => rfl
      | 4, _, _ => rfl
      | 5, _, _ => rfl
      | 6, _, _ => rfl
      | 7, _, _ => rfl
      | 8, _, _ => rfl
      | 9, _, _ => rfl
      | 10, _, _ => rfl
      | 11, _, _ => rfl
      | 12, _, _ => rfl
      | 13, _, h => exact absurd rfl h
      | 14, _, _ => rfl
      | 15, _, _ => rfl
      | 16, _, _ => rfl
      | j + 17, _, _ => rfl
    · rw [CW_hi h27, CW_hi h27]
theorem CW_set5 {cs : Nat → ClassId} {z bo : Nat → Nat} {g q pp dd : Nat → Nat → Int32} {bk : Nat → Nat} (f : Nat → Int32) : va_up (CW cs z bo g q pp dd bk) 5 (.inl (cs 0, 200, .inl f)) = CW cs z bo g (va_up q 3 f) pp dd bk := by
  funext k
  by_cases hk : k = 5
  · subst hk; rw [va_up_self, CW_lo (by decide)]; rfl
  · rw [va_up_ne _ _ hk]
    by_cases h27 : k < 27
    · rw [CW_lo h27, CW_lo h27]
      match k, h27, hk with
      | 0, _, _ => rfl
      | 1, _, _ => rfl
      | 2, _, _ => rfl
      | 3, _, _ => rfl
      | 4, _, _ => rfl
      | 5, _, h => exact absurd rfl h
      | 6, _, _ => rfl
      | 7, _, _ => rfl
      | 8, _, _ => rfl
      | 9, _, _ => rfl
      | 10, _, _ => rfl
      | 11, _, _ => rfl
      | 12, _, _ => rfl
      | 13, _, _ => rfl
      | 14, _, _ => rfl
      | 15, _, _ => rfl
      | 16, _, _ => rfl
      | j + 17, _, _ => rfl
    · rw [CW_hi h27, CW_hi h27]
theorem CW_set6 {cs : Nat → ClassId} {z bo : Nat → Nat} {g q pp dd : Nat → Nat → Int32} {bk : Nat → Nat} (f : Nat → Int32) : va_up (CW cs z bo g q pp dd bk) 6 (.inl (cs 0, 200, .inl f)) = CW cs z bo g (va_up q 4 f) pp dd bk := by
  funext k
  by_cases hk : k = 6
  · subst hk; rw [va_up_self, CW_lo (by decide)]; rfl
  · rw [va_up_ne _ _ hk]
    by_cases h27 : k < 27
    · rw [CW_lo h27, CW_lo h27]
      match k, h27, hk with
      | 0, _, _ => rfl
      | 1, _, _ => rfl
      | 2, _, _ => rfl
      | 3, _, _ => rfl
      | 4, _, _ => rfl
      | 5, _, _ => rfl
      | 6, _, h => exact absurd rfl h
      | 7, _, _ => rfl
      | 8, _, _ => rfl
      | 9, _, _ => rfl
      | 10, _, _ => rfl
      | 11, _, _ => rfl
      | 12, _, _ => rfl
      | 13, _, _ => rfl
      | 14, _, _ => rfl
      | 15, _, _ => rfl
      | 16, _, _ => rfl
      | j + 17, _, _ => rfl
    · rw [CW_hi h27, CW_hi h27]
theorem CW_set8 {cs : Nat → ClassId} {z bo : Nat → Nat} {g q pp dd : Nat → Nat → Int32} {bk : Nat → Nat} (f : Nat → Int32) : va_up (CW cs z bo g q pp dd bk) 8 (.inl (cs 0, 100, .inl f)) = CW cs z bo g (va_up q 5 f) pp dd bk := by
  funext k
  by_cases hk : k = 8
  · subst hk; rw [va_up_self, CW_lo (by decide)]; rfl
  · rw [va_up_ne _ _ hk]
    by_cases h27 : k < 27
    · rw [CW_lo h27, CW_lo h27]
      match k, h27, hk with
      | 0, _, _ => rfl
      | 1, _, _ => rfl
      | 2, _, _ => rfl
      | 3, _, _ => rfl
      | 4, _, _ => rfl
      | 5, _, _ => rfl
      | 6, _, _ => rfl
      | 7, _, _ => rfl
      | 8, _, h => exact absurd rfl h
      | 9, _, _ => rfl
      | 10, _, _ => rfl
      | 11, _, _ => rfl
      | 12, _, _ => rfl
      | 13, _, _ => rfl
      | 14, _, _ => rfl
      | 15, _, _ => rfl
      | 16, _, _ => rfl
      | j + 17, _, _ => rfl
    · rw [CW_hi h27, CW_hi h27]
theorem CW_set9 {cs : Nat → ClassId} {z bo : Nat → Nat} {g q pp dd : Nat → Nat → Int32} {bk : Nat → Nat} (f : Nat → Int32) : va_up (CW cs z bo g q pp dd bk) 9 (.inl (cs 0, 100, .inl f)) = CW cs z bo g (va_up q 6 f) pp dd bk := by
  funext k
  by_cases hk : k = 9
  · subst hk; rw [va_up_self, CW_lo (by decide)]; rfl
  · rw [va_up_ne _ _ hk]
    by_cases h27 : k < 27
    · rw [CW_lo h27, CW_lo h27]
      match k, h27, hk with
      | 0, _, _ => rfl
      | 1, _, _ => rfl
      | 2, _, _ => rfl
      | 3, _, _ => rfl
      | 4, _, _ => rfl
      | 5, _, _ => rfl
      | 6, _, _ => rfl
      | 7, _, _ => rfl
      | 8, _, _ => rfl
      | 9, _, h => exact absurd rfl h
      | 10, _, _ => rfl
      | 11, _, _ => rfl
      | 12, _, _ => rfl
      | 13, _, _ => rfl
      | 14, _, _ => rfl
      | 15, _, _ => rfl
      | 16, _, _ => rfl
      | j + 17, _, _ => rfl
    · rw [CW_hi h27, CW_hi h27]
theorem CW_set11 {cs : Nat → ClassId} {z bo : Nat → Nat} {g q pp dd : Nat → Nat → Int32} {bk : Nat → Nat} (f : Nat → Int32) : va_up (CW cs z bo g q pp dd bk) 11 (.inl (cs 0, 200, .inl f)) = CW cs z bo g (va_up q 7 f) pp dd bk := by
  funext k
  by_cases hk : k = 11
  · subst hk; rw [va_up_self, CW_lo (by decide)]; rfl
  · rw [va_up_ne _ _ hk]
    by_cases h27 : k < 27
    · rw [CW_lo h27, CW_lo h27]
      match k, h27, hk with
      | 0, _, _ => rfl
      | 1, _, _ => rfl
      | 2, _, _ => rfl
      | 3, _, _ => rfl
      | 4, _, _ => rfl
      | 5, _, _ => rfl
      | 6, _, _ => rfl
      | 7, _, _ => rfl
      | 8, _, _ => rfl
      | 9, _, _ => rfl
      | 10, _, _ => rfl
      | 11, _, h => exact absurd rfl h
      | 12, _, _ => rfl
      | 13, _, _ => rfl
      | 14, _, _ => rfl
      | 15, _, _ => rfl
      | 16, _, _ => rfl
      | j + 17, _, _ => rfl
    · rw [CW_hi h27, CW_hi h27]
theorem CW_set12 {cs : Nat → ClassId} {z bo : Nat → Nat} {g q pp dd : Nat → Nat → Int32} {bk : Nat → Nat} (f : Nat → Int32) : va_up (CW cs z bo g q pp dd bk) 12 (.inl (cs 0, 41, .inl f)) = CW cs z bo g (va_up q 8 f) pp dd bk := by
  funext k
  by_cases hk : k = 12
  · subst hk; rw [va_up_self, CW_lo (by decide)]; rfl
  · rw [va_up_ne _ _ hk]
    by_cases h27 : k < 27
    · rw [CW_lo h27, CW_lo h27]
      match k, h27, hk with
      | 0, _, _ => rfl
      | 1, _, _ => rfl
      | 2, _, _ => rfl
      | 3, _, _ => rfl
      | 4, _, _ => rfl
      | 5, _, _ => rfl
      | 6, _, _ => rfl
      | 7, _, _ => rfl
      | 8, _, _ => rfl
      | 9, _, _ => rfl
      | 10, _, _ => rfl
      | 11, _, _ => rfl
      | 12, _, h => exact absurd rfl h
      | 13, _, _ => rfl
      | 14, _, _ => rfl
      | 15, _, _ => rfl
      | 16, _, _ => rfl
      | j + 17, _, _ => rfl
    · rw [CW_hi h27, CW_hi h27]
theorem CW_set14 {cs : Nat → ClassId} {z bo : Nat → Nat} {g q pp dd : Nat → Nat → Int32} {bk : Nat → Nat} (f : Nat → Int32) : va_up (CW cs z bo g q pp dd bk) 14 (.inl (cs 0, 200, .inl f)) = CW cs z bo g (va_up q 9 f) pp dd bk := by
  funext k
  by_cases hk : k = 14
  · subst hk; rw [va_up_self, CW_lo (by decide)]; rfl
  · rw [va_up_ne _ _ hk]
    by_cases h27 : k < 27
    · rw [CW_lo h27, CW_lo h27]
      match k, h27, hk with
      | 0, _, _ => rfl
      | 1, _, _ => rfl
      | 2, _, _ => rfl
      | 3, _, _ => rfl
      | 4, _, _ => rfl
      | 5, _, _ => rfl
      | 6, _, _ => rfl
      | 7, _, _ => rfl
      | 8, _, _ => rfl
      | 9, _, _ => rfl
      | 10, _, _ => rfl
      | 11, _, _ => rfl
      | 12, _, _ => rfl
      | 13, _, _ => rfl
      | 14, _, h => exact absurd rfl h
      | 15, _, _ => rfl
      | 16, _, _ => rfl
      | j + 17, _, _ => rfl
    · rw [CW_hi h27, CW_hi h27]
theorem CW_set15 {cs : Nat → ClassId} {z bo : Nat → Nat} {g q pp dd : Nat → Nat → Int32} {bk : Nat → Nat} (f : Nat → Int32) : va_up (CW cs z bo g q pp dd bk) 15 (.inl (cs 0, 200, .inl f)) = CW cs z bo g (va_up q 10 f) pp dd bk := by
  funext k
  by_cases hk : k = 15
  · subst hk; rw [va_up_self, CW_lo (by decide)]; rfl
  · rw [va_up_ne _ _ hk]
    by_cases h27 : k < 27
    · rw [CW_lo h27, CW_lo h27]
      match k, h27, hk with
      | 0, _, _ => rfl
      | 1, _, _ => rfl
      | 2, _, _ => rfl
      | 3, _, _ => rfl
      | 4, _, _ => rfl
      | 5, _, _ => rfl
      | 6, _, _ => rfl
      | 7, _, _ => rfl
      | 8, _, _ => rfl
      | 9, _, _ => rfl
      | 10, _, _ => rfl
      | 11, _, _ => rfl
      | 12, _, _ => rfl
      | 13, _, _ => rfl
      | 14, _, _ => rfl
      | 15, _, h => exact absurd rfl h
      | 16, _, _ => rfl
      | j + 17, _, _ => rfl
    · rw [CW_hi h27, CW_hi h27]
theorem CW_set16 {cs : Nat → ClassId} {z bo : Nat → Nat} {g q pp dd : Nat → Nat → Int32} {bk : Nat → Nat} (f : Nat → Int32) : va_up (CW cs z bo g q pp dd bk) 16 (.inl (cs 0, 200, .inl f)) = CW cs z bo g (va_up q 11 f) pp dd bk := by
  funext k
  by_cases hk : k = 16
  · subst hk; rw [va_up_self, CW_lo (by decide)]; rfl
  · rw [va_up_ne _ _ hk]
    by_cases h27 : k < 27
    · rw [CW_lo h27, CW_lo h27]
      match k, h27, hk with
      | 0, _, _ => rfl
      | 1, _, _ => rfl
      | 2, _, _ => rfl
      | 3, _, _ => rfl
      | 4, _, _ => rfl
      | 5, _, _ => rfl
      | 6, _, _ => rfl
      | 7, _, _ => rfl
      | 8, _, _ => rfl
      | 9, _, _ => rfl
      | 10, _, _ => rfl
      | 11, _, _ => rfl
      | 12, _, _ => rfl
      | 13, _, _ => rfl
      | 14, _, _ => rfl
      | 15, _, _ => rfl
      | 16, _, h => exact absurd rfl h
      | j + 17, _, _ => rfl
    · rw [CW_hi h27, CW_hi h27]
abbrev XS : Type := Int32 × (Nat → Nat) × (Nat → Nat) × (Nat → Nat → Int32) × (Nat → Nat → Int32) × (Nat → Nat → Int32) × (Nat → Nat → Int32)
def Xw (cs : Nat → ClassId) (bk : Nat → Nat) (R : XS) : Nat → va_E := CW cs R.2.1 R.2.2.1 R.2.2.2.1 R.2.2.2.2.1 R.2.2.2.2.2.1 R.2.2.2.2.2.2 bk
def Xr (cs : Nat → ClassId) (bk : Nat → Nat) (R : XS) (r : Int32) (u : Wt) : Prop := r = R.1 ∧ u = (27 + 4 * R.2.1 0, bk, Xw cs bk R)
def Xv (cs : Nat → ClassId) (bk : Nat → Nat) (R : XS) (u : Wt) : Prop := u = (27 + 4 * R.2.1 0, bk, Xw cs bk R)
theorem Xr_of {cs : Nat → ClassId} {z bo : Nat → Nat} {g q pp dd : Nat → Nat → Int32} {bk : Nat → Nat} {R : XS} {r : Int32} {N : Nat} (h : R = (r, z, bo, g, q, pp, dd)) (hN : N = 27 + 4 * z 0) : Xr cs bk R r (N, bk, CW cs z bo g q pp dd bk) := by subst h; subst hN; exact ⟨rfl, rfl⟩
theorem Xv_of {cs : Nat → ClassId} {z bo : Nat → Nat} {g q pp dd : Nat → Nat → Int32} {bk : Nat → Nat} {R : XS} {r : Int32} {N : Nat} (h : R = (r, z, bo, g, q, pp, dd)) (hN : N = 27 + 4 * z 0) : Xv cs bk R (N, bk, CW cs z bo g q pp dd bk) := by subst h; subst hN; exact rfl
theorem wl_eqP {D : va_G} {cl : List vw_C} {N N1 : Nat} {bk bk1 : Nat → Nat} {cw cw1 : Nat → va_E} {H : Heap} (e : ((N1, bk1, cw1) : Wt) = (N, bk, cw)) (h : va_P D cl (wl N1 bk1 cw1) H) : va_P D cl (wl N bk cw) H := by
  obtain ⟨h1, h2⟩ := Prod.mk.inj e; obtain ⟨h3, h4⟩ := Prod.mk.inj h2; rw [h1, h3, h4] at h; exact h
theorem wl_eqD {A : Nat → Prop} {N N1 : Nat} {bk bk1 : Nat → Nat} {cw cw1 : Nat → va_E} (e : ((N1, bk1, cw1) : Wt) = (N, bk, cw)) (h : va_D A (wl N1 bk1 cw1)) : va_D A (wl N bk cw) := by
  obtain ⟨h1, h2⟩ := Prod.mk.inj e; obtain ⟨h3, h4⟩ := Prod.mk.inj h2; rw [h1, h3, h4] at h; exact h
def nz (n L : Nat) : Nat := if n < L then n + 1 else n
def na (n L : Nat) (f : Nat → Int32) (x : Int32) : Nat → Int32 := if n < L then upd f n x else f
theorem CW_note {cs : Nat → ClassId} {z bo : Nat → Nat} {g q pp dd : Nat → Nat → Int32} {bk : Nat → Nat} {N1 N : Nat} {bk1 : Nat → Nat} {cw1 : Nat → va_E} {x y : Int32} (h : (z 2 < 100 → ((N1, bk1, cw1) : Wt) = (N, bk, va_up (va_up (va_up (CW cs z bo g q pp dd bk) 8 (.inl (cs 0, 100, .inl (upd (q 5) (z 2) x)))) 9 (.inl (cs 0, 100, .inl (upd (q 6) (z 2) y)))) 7 (.inr (4, [.ref (bk 8), .ref (bk 9), .int (nI (z 2 + 1))])))) ∧ (¬ z 2 < 100 → ((N1, bk1, cw1) : Wt) = (N, bk, CW cs z bo g q pp dd bk))) :
    ((N1, bk1, cw1) : Wt) = (N, bk, CW cs (va_up z 2 (nz (z 2) 100)) bo g (va_up (va_up q 5 (na (z 2) 100 (q 5) x)) 6 (na (z 2) 100 (q 6) y)) pp dd bk) := by
  by_cases c : z 2 < 100
  · rw [h.1 c, CW_set8, CW_set9, CW_set7, nz, na, na, if_pos c, if_pos c, if_pos c]
  · rw [h.2 c, nz, na, na, if_neg c, if_neg c, if_neg c, va_up_id, va_up_id, va_up_id]
theorem CW_issU {cs : Nat → ClassId} {z bo : Nat → Nat} {g q pp dd : Nat → Nat → Int32} {bk : Nat → Nat} {h : Nat → Int32} (i : Nat) : CW cs z bo (va_up g i h) q pp dd bk (27 + 4 * i) = .inr (2, issF bk i h) := (CW_iss i).trans (by rw [va_up_self])
theorem CW_rouU {cs : Nat → ClassId} {z bo : Nat → Nat} {g q pp dd : Nat → Nat → Int32} {bk : Nat → Nat} {h : Nat → Int32} (i : Nat) : CW cs z bo (va_up g i h) q pp dd bk (28 + 4 * i) = .inr (3, rouF bk i h) := (CW_rou i).trans (by rw [va_up_self])
theorem CW_perU {cs : Nat → ClassId} {z bo : Nat → Nat} {g q pp dd : Nat → Nat → Int32} {bk : Nat → Nat} {h : Nat → Int32} (i : Nat) : CW cs z bo g q (va_up pp i h) dd bk (29 + 4 * i) = .inl (cs 0, 8, .inl h) := (CW_per i).trans (by rw [va_up_self])
theorem CW_dayU {cs : Nat → ClassId} {z bo : Nat → Nat} {g q pp dd : Nat → Nat → Int32} {bk : Nat → Nat} {h : Nat → Int32} (i : Nat) : CW cs z bo g q pp (va_up dd i h) bk (30 + 4 * i) = .inl (cs 0, 8, .inl h) := (CW_day i).trans (by rw [va_up_self])
