/-! The next above: a search over the numbers against a walk along the order. -/
theorem pigeon : ∀ (n : Nat) (f : Nat → Nat), (∀ t, t < n → f t < n) → (∀ s t, s < n → t < n → f s = f t → s = t) → ∀ x, x < n → ∃ t, t < n ∧ f t = x
  | 0, _, _, _, x, hx => absurd hx (Nat.not_lt_zero x)
  | n + 1, f, hr, hi, x, hx => by
    by_cases ey : f n = n
    · by_cases ex : x = n
      · exact ⟨n, by omega, by rw [ey, ex]⟩
      · obtain ⟨t, ht, e⟩ := pigeon n f (fun t ht => by
          have h1 := hr t (by omega)
          have h2 : f t ≠ n := fun q => by have := hi t n (by omega) (by omega) (by rw [q, ey]); omega
          omega) (fun s t hs ht => hi s t (by omega) (by omega)) x (by omega)
        exact ⟨t, by omega, e⟩
    · have hy : f n < n := by have := hr n (by omega); omega
      have G := pigeon n (fun t => if f t = n then f n else f t) (fun t ht => by
          show (if f t = n then f n else f t) < n
          split
          · exact hy
          · have := hr t (by omega); omega) (fun s t hs ht e => by
          have e : (if f s = n then f n else f s) = (if f t = n then f n else f t) := e
          by_cases c : f s = n
          · by_cases d : f t = n
            · exact hi s t (by omega) (by omega) (by rw [c, d])
            · rw [if_pos c, if_neg d] at e
              have := hi n t (by omega) (by omega) e; omega
          · by_cases d : f t = n
            · rw [if_neg c, if_pos d] at e
              have := hi s n (by omega) (by omega) e; omega
            · rw [if_neg c, if_neg d] at e
              exact hi s t (by omega) (by omega) e)
      by_cases e1 : x = f n
      · exact ⟨n, by omega, e1.symm⟩
      · by_cases e2 : x = n
        · obtain ⟨t, ht, e⟩ := G (f n) hy
          have e : (if f t = n then f n else f t) = f n := e
          by_cases c : f t = n
          · exact ⟨t, by omega, by rw [c, e2]⟩
          · rw [if_neg c] at e
            have := hi t n (by omega) (by omega) e; omega
        · obtain ⟨t, ht, e⟩ := G x (by omega)
          have e : (if f t = n then f n else f t) = x := e
          by_cases c : f t = n
          · rw [if_pos c] at e; exact absurd e.symm e1
          · rw [if_neg c] at e; exact ⟨t, by omega, e⟩
def nxt (P : Nat → Prop) [DecidablePred P] (o : Nat → Int32) (ab : Int32) : Nat → Nat → Int32 → Int32
  | 0, _, b => b
  | k + 1, i, b => if P i ∧ ab < o i ∧ (b < 0 ∨ o i < o b.toNatClampNeg) then nxt P o ab k (i + 1) (nI i) else nxt P o ab k (i + 1) b
def NX (P : Nat → Prop) (o : Nat → Int32) (ab : Int32) (n : Nat) (r : Int32) : Prop := (r = -1 ∧ ∀ x, x < n → P x → o x ≤ ab) ∨ ∃ j, j < n ∧ r = nI j ∧ P j ∧ ab < o j ∧ ∀ x, x < n → P x → ab < o x → o j ≤ o x
theorem nxt_sp {P : Nat → Prop} [DecidablePred P] {o : Nat → Int32} {ab : Int32} {n : Nat} (hn : n < 2 ^ 31) : ∀ (k i : Nat) (b : Int32), i + k = n → NX P o ab i b → NX P o ab n (nxt P o ab k i b)
  | 0, i, b, hk, H => by rw [nxt, ← show i = n from hk]; exact H
  | k + 1, i, b, hk, H => by
    rw [nxt]
    by_cases c : P i ∧ ab < o i ∧ (b < 0 ∨ o i < o b.toNatClampNeg)
    · rw [if_pos c]
      refine nxt_sp hn k (i + 1) _ (by omega) (Or.inr ⟨i, by omega, rfl, c.1, c.2.1, fun x hx px ax => ?_⟩)
      by_cases ex : x = i
      · subst ex; exact Int32.le_refl _
      · rcases H with ⟨rfl, h⟩ | ⟨j, hj, rfl, pj, aj, h⟩
        · exact absurd ax (Int32.not_lt.mpr (h x (by omega) px))
        · have hb : ¬ nI j < 0 := nI_pos (by omega)
          have h2 := (c.2.2).resolve_left hb
          rw [nI_clamp (by omega)] at h2
          exact Int32.le_trans (Int32.le_of_lt h2) (h x (by omega) px ax)
    · rw [if_neg c]
      refine nxt_sp hn k (i + 1) _ (by omega) ?_
      rcases H with ⟨rfl, h⟩ | ⟨j, hj, rfl, pj, aj, h⟩
      · refine Or.inl ⟨rfl, fun x hx px => ?_⟩
        by_cases ex : x = i
        · subst ex
          exact Int32.not_lt.mp (fun q => c ⟨px, q, Or.inl (by decide)⟩)
        · exact h x (by omega) px
      · refine Or.inr ⟨j, by omega, rfl, pj, aj, fun x hx px ax => ?_⟩
        by_cases ex : x = i
        · subst ex
          refine Int32.not_lt.mp (fun q => c ⟨px, ax, Or.inr ?_⟩)
          rw [nI_clamp (by omega)]; exact q
        · exact h x (by omega) px ax
theorem nxt_NX {P : Nat → Prop} [DecidablePred P] {o : Nat → Int32} {ab : Int32} {n : Nat} (hn : n < 2 ^ 31) : NX P o ab n (nxt P o ab n 0 (-1)) := nxt_sp hn n 0 _ (by omega) (Or.inl ⟨rfl, fun x hx => absurd hx (Nat.not_lt_zero x)⟩)
abbrev pS (a : Nat → Nat → Int32) (pt : Int32) (i : Nat) : Prop := a 4 i = pt ∧ ¬ a 6 i = 6
abbrev pH (a : Nat → Nat → Int32) (pt : Int32) (i : Nat) : Prop := a 4 i = pt ∧ a 6 i = 3
abbrev pV (a : Nat → Nat → Int32) (v : Int32) (i : Nat) : Prop := a 12 i = v
theorem nxt_next {a : Nat → Nat → Int32} {pt ab : Int32} : ∀ (k i : Nat) (b : Int32), lp_next a pt ab k i b = nxt (pS a pt) (a 5) ab k i b
  | 0, i, b => rfl
  | k + 1, i, b => by
    rw [lp_next, nxt, nxt_next k, nxt_next k]
    by_cases c1 : a 4 i = pt
    · by_cases c2 : a 6 i = 6
      · rw [if_pos c1, if_pos c2, if_neg (fun h => h.1.2 c2)]
      · by_cases c3 : ab < a 5 i
        · by_cases c4 : b < 0
          · rw [if_pos c1, if_neg c2, if_pos c3, if_pos c4, if_pos ⟨⟨c1, c2⟩, c3, Or.inl c4⟩]
          · by_cases c5 : a 5 b.toNatClampNeg ≤ a 5 i
            · rw [if_pos c1, if_neg c2, if_pos c3, if_neg c4, if_pos c5, if_neg (fun h => h.2.2.elim c4 (Int32.not_lt.mpr c5))]
            · rw [if_pos c1, if_neg c2, if_pos c3, if_neg c4, if_neg c5, if_pos ⟨⟨c1, c2⟩, c3, Or.inr (Int32.not_le.mp c5)⟩]
        · rw [if_pos c1, if_neg c2, if_neg c3, if_neg (fun h => c3 h.2.1)]
    · rw [if_neg c1, if_neg (fun h => c1 h.1.1)]
theorem nxt_here {a : Nat → Nat → Int32} {pt ab : Int32} : ∀ (k i : Nat) (b : Int32), lp_nextHere a pt ab k i b = nxt (pH a pt) (a 5) ab k i b
  | 0, i, b => rfl
  | k + 1, i, b => by
    rw [lp_nextHere, nxt, nxt_here k, nxt_here k]
    by_cases c1 : a 4 i = pt
    · by_cases c2 : a 6 i = 3
      · by_cases c3 : ab < a 5 i
        · by_cases c4 : b < 0
          · rw [if_pos c1, if_pos c2, if_pos c3, if_pos c4, if_pos ⟨⟨c1, c2⟩, c3, Or.inl c4⟩]
          · by_cases c5 : a 5 b.toNatClampNeg ≤ a 5 i
            · rw [if_pos c1, if_pos c2, if_pos c3, if_neg c4, if_pos c5, if_neg (fun h => h.2.2.elim c4 (Int32.not_lt.mpr c5))]
            · rw [if_pos c1, if_pos c2, if_pos c3, if_neg c4, if_neg c5, if_pos ⟨⟨c1, c2⟩, c3, Or.inr (Int32.not_le.mp c5)⟩]
        · rw [if_pos c1, if_pos c2, if_neg c3, if_neg (fun h => c3 h.2.1)]
      · rw [if_pos c1, if_neg c2, if_neg (fun h => c2 h.1.2)]
    · rw [if_neg c1, if_neg (fun h => c1 h.1.1)]
theorem nxt_vol {a : Nat → Nat → Int32} {v ab : Int32} : ∀ (k i : Nat) (b : Int32), lp_vol a v ab k i b = nxt (pV a v) (a 5) ab k i b
  | 0, i, b => rfl
  | k + 1, i, b => by
    rw [lp_vol, nxt, nxt_vol k, nxt_vol k]
    by_cases c1 : a 12 i = v
    · by_cases c3 : a 5 i ≤ ab
      · rw [if_pos c1, if_pos c3, if_neg (fun h => absurd h.2.1 (Int32.not_lt.mpr c3))]
      · by_cases c4 : b < 0
        · rw [if_pos c1, if_neg c3, if_pos c4, if_pos ⟨c1, Int32.not_le.mp c3, Or.inl c4⟩]
        · by_cases c5 : a 5 b.toNatClampNeg ≤ a 5 i
          · rw [if_pos c1, if_neg c3, if_neg c4, if_pos c5, if_neg (fun h => h.2.2.elim c4 (Int32.not_lt.mpr c5))]
          · rw [if_pos c1, if_neg c3, if_neg c4, if_neg c5, if_pos ⟨c1, Int32.not_le.mp c3, Or.inr (Int32.not_le.mp c5)⟩]
    · rw [if_neg c1, if_neg (fun h => c1 h.1)]
/-- the walk along bo stands at i, the search at ab -/
def IV (P : Nat → Prop) (o : Nat → Int32) (bo : Nat → Nat) (n i : Nat) (ab : Int32) : Prop := (∀ t, t < i → P (bo t) → o (bo t) ≤ ab) ∧ (∀ t, i ≤ t → t < n → P (bo t) → ab < o (bo t))
def OR (n : Nat) (bo : Nat → Nat) (o : Nat → Int32) : Prop := (∀ t, t < n → bo t < n) ∧ (∀ s t, s < n → t < n → bo s = bo t → s = t) ∧ (∀ s t, s < t → t < n → o (bo s) ≤ o (bo t))
def QU (P : Nat → Prop) (o : Nat → Int32) (n : Nat) : Prop := ∀ x y, x < n → y < n → P x → P y → o x = o y → x = y
section IV
variable {P : Nat → Prop} {o : Nat → Int32} {bo : Nat → Nat} {n i : Nat} {ab : Int32}
theorem IV_skip (H : IV P o bo n i ab) (h : ¬ P (bo i)) : IV P o bo n (i + 1) ab := by
  refine ⟨fun t ht pt => ?_, fun t ht => H.2 t (by omega)⟩
  by_cases e : t = i
  · subst e; exact absurd pt h
  · exact H.1 t (by omega) pt
theorem IV_on (hO : OR n bo o) (hQ : QU P o n) (H : IV P o bo n i ab) (hi : i < n) (h : P (bo i)) : IV P o bo n (i + 1) (o (bo i)) := by
  refine ⟨fun t ht pt => ?_, fun t ht htn pt => ?_⟩
  · by_cases e : t = i
    · subst e; exact Int32.le_refl _
    · exact hO.2.2 t i (by omega) hi
  · have h1 := hO.2.2 i t (by omega) htn
    refine Int32.lt_of_le_of_ne h1 (fun e => ?_)
    have := hO.2.1 i t hi htn (hQ _ _ (hO.1 i hi) (hO.1 t htn) h pt e)
    omega
theorem IV_hit [DecidablePred P] (hn : n < 2 ^ 31) (hO : OR n bo o) (hQ : QU P o n) (H : IV P o bo n i ab) (hi : i < n) (h : P (bo i)) : nxt P o ab n 0 (-1) = nI (bo i) := by
  have hlt := H.2 i (Nat.le_refl _) hi h
  rcases nxt_NX (P := P) (o := o) (ab := ab) hn with ⟨_, q⟩ | ⟨j, hj, e, pj, aj, q⟩
  · exact absurd hlt (Int32.not_lt.mpr (q _ (hO.1 i hi) h))
  · rw [e]
    have h1 := q _ (hO.1 i hi) h hlt
    obtain ⟨t, ht, rfl⟩ := pigeon n bo hO.1 hO.2.1 j hj
    by_cases et : t < i
    · exact absurd aj (Int32.not_lt.mpr (H.1 t et pj))
    · by_cases e2 : t = i
      · rw [e2]
      · have h2 := hO.2.2 i t (by omega) ht
        rw [hQ _ _ hj (hO.1 i hi) pj h (Int32.le_antisymm h1 h2)]
theorem IV_end [DecidablePred P] (hn : n < 2 ^ 31) (hO : OR n bo o) (H : IV P o bo n n ab) : nxt P o ab n 0 (-1) = -1 := by
  rcases nxt_NX (P := P) (o := o) (ab := ab) hn with ⟨e, _⟩ | ⟨j, hj, e, pj, aj, q⟩
  · exact e
  · obtain ⟨t, ht, rfl⟩ := pigeon n bo hO.1 hO.2.1 j hj
    exact absurd aj (Int32.not_lt.mpr (H.1 t ht pj))
end IV
section EQ
variable {z bo zm : Nat → Nat} {g q pp dd a : Nat → Nat → Int32} {th : Int32}
theorem Rl_OR (H : Rl z bo g q pp dd zm a) : OR (z 0) bo (a 5) := by
  obtain ⟨h1, h2, h3⟩ := H.2.2.2.2.2.2.1
  refine ⟨h1, h2, fun s t hs ht => ?_⟩
  rw [← (H.2.1 (bo s) (h1 s (by omega))).1.1.2.1, ← (H.2.1 (bo t) (h1 t ht)).1.1.2.1]
  exact h3 s t hs ht
theorem Rl_QS (H : Rl z bo g q pp dd zm a) (pt : Int32) : QU (pS a pt) (a 5) (z 0) := by
  intro x y hx hy px py e
  obtain ⟨⟨⟨x0, x1, -, -, x4, -⟩, -⟩, -⟩ := H.2.1 x hx
  obtain ⟨⟨⟨y0, y1, -, -, y4, -⟩, -⟩, -⟩ := H.2.1 y hy
  by_cases q : x = y
  · exact q
  · have := H.2.2.2.2.2.2.2.1 x y hx hy q (by rw [x0, y0, px.1, py.1]) (by rw [x1, y1, e])
    rw [x4, y4] at this
    exact (this.elim px.2 py.2).elim
theorem Rl_QH (H : Rl z bo g q pp dd zm a) (pt : Int32) : QU (pH a pt) (a 5) (z 0) := by
  intro x y hx hy px py e
  exact Rl_QS H pt x y hx hy ⟨px.1, fun q => by rw [px.2] at q; exact absurd q (by decide)⟩ ⟨py.1, fun q => by rw [py.2] at q; exact absurd q (by decide)⟩ e
theorem Rl_ord (H : Rl z bo g q pp dd zm a) {j : Nat} (hj : j < z 0) : 1 ≤ a 5 j ∧ a 5 j ≤ 9999 := by
  obtain ⟨⟨⟨x0, x1, -⟩, -⟩, -, hI, -⟩ := H.2.1 j hj
  rw [← x1]; exact hI
theorem Rl_IV0 (H : Rl z bo g q pp dd zm a) (P : Nat → Prop) : IV P (a 5) bo (z 0) 0 0 := by
  refine ⟨fun t ht => absurd ht (Nat.not_lt_zero t), fun t _ ht _ => ?_⟩
  have := (Rl_ord H (H.2.2.2.2.2.2.1.1 t ht)).1
  rw [Int32.le_iff_toInt_le, T1] at this
  rw [Int32.lt_iff_toInt_lt, T0]; omega
theorem Rl_rowN (H : Rl z bo g q pp dd zm a) (h : z 4 < 200) (x : Int32) : Rl (va_up z 4 (z 4 + 1)) bo g (va_up (va_up (va_up q 9 (upd (q 9) (z 4) x)) 11 (upd (q 11) (z 4) 1)) 10 (upd (q 10) (z 4) x)) pp dd (va_up zm 3 (zm 3 + 1)) (va_up (va_up (va_up a 23 (upd (a 23) (zm 3) x)) 24 (upd (a 24) (zm 3) x)) 25 (upd (a 25) (zm 3) 1)) := by
  obtain ⟨z0, hA, hU, hRR, hN, ⟨e, hl, hq⟩, hO, hQ, hV⟩ := H
  refine ⟨z0, ?_, hU, hRR, hN, ⟨show z 4 + 1 = zm 3 + 1 by omega, show z 4 + 1 ≤ 200 by omega, fun t ht => ?_⟩, hO, hQ, VO_same hV (fun _ _ => Iff.rfl) (fun _ _ => rfl) (fun _ _ => rfl) rfl rfl⟩
  · intro i hi
    exact ⟨RI_frame (hA i hi).1 rfl rfl rfl rfl rfl rfl rfl rfl rfl rfl rfl rfl rfl rfl rfl (fun _ _ => rfl) (fun _ _ => rfl), (hA i hi).2⟩
  · have ht' : t < z 4 + 1 := ht
    show upd (q 9) (z 4) x t = upd (a 23) (zm 3) x t ∧ upd (q 10) (z 4) x t = upd (a 24) (zm 3) x t ∧ upd (q 11) (z 4) 1 t = upd (a 25) (zm 3) 1 t
    rw [← e]
    by_cases et : t = z 4
    · subst et; exact ⟨by rw [pk_us, pk_us], by rw [pk_us, pk_us], by rw [pk_us, pk_us]⟩
    · rw [pk_un et, pk_un et, pk_un et, pk_un et, pk_un et, pk_un et]; exact hq t (by omega)
theorem Rl_rowM (H : Rl z bo g q pp dd zm a) (h : 0 < z 4) (x : Int32) : Rl z bo g (va_up (va_up q 10 (upd (q 10) (z 4 - 1) x)) 11 (upd (q 11) (z 4 - 1) (q 11 (z 4 - 1) + 1))) pp dd zm (va_up (va_up a 24 (upd (a 24) (zm 3 - 1) x)) 25 (upd (a 25) (zm 3 - 1) (a 25 (zm 3 - 1) + 1))) := by
  obtain ⟨z0, hA, hU, hRR, hN, ⟨e, hl, hq⟩, hO, hQ, hV⟩ := H
  refine ⟨z0, ?_, hU, hRR, hN, ⟨e, hl, fun t ht => ?_⟩, hO, hQ, VO_same hV (fun _ _ => Iff.rfl) (fun _ _ => rfl) (fun _ _ => rfl) rfl rfl⟩
  · intro i hi
    exact ⟨RI_frame (hA i hi).1 rfl rfl rfl rfl rfl rfl rfl rfl rfl rfl rfl rfl rfl rfl rfl (fun _ _ => rfl) (fun _ _ => rfl), (hA i hi).2⟩
  · show q 9 t = a 23 t ∧ upd (q 10) (z 4 - 1) x t = upd (a 24) (zm 3 - 1) x t ∧ upd (q 11) (z 4 - 1) (q 11 (z 4 - 1) + 1) t = upd (a 25) (zm 3 - 1) (a 25 (zm 3 - 1) + 1) t
    rw [← e, (hq (z 4 - 1) (by omega)).2.2]
    by_cases et : t = z 4 - 1
    · rw [et]; exact ⟨(hq (z 4 - 1) (by omega)).1, by rw [pk_us, pk_us], by rw [pk_us, pk_us]⟩
    · rw [pk_un et, pk_un et, pk_un et, pk_un et]; exact hq t ht
end EQ
theorem eq_stat1 (pt : Int32) (n : Nat) (hn : n ≤ 200) : ∀ (k i f : Nat) (z bo zm : Nat → Nat) (g q pp dd a : Nat → Nat → Int32) (th it go ab : Int32), Rl z bo g q pp dd zm a → z 0 = n → i + k = n → k ≤ f → (it = if go = 0 then 1 else 0) → z 4 ≤ i → (¬ go = 0 → 0 < z 4) → IV (pS a pt) (a 5) bo n i ab → E2 (lp_stat pt k z bo g q pp dd i it) (lp_mstat n pt f th zm a go (lp_next a pt ab n 0 (-1)))
  | 0, i, f, z, bo, zm, g, q, pp, dd, a, th, it, go, ab, H, hz, hik, hf, hit, hz4, hgo, hI => by
    have hO := Rl_OR H
    rw [hz] at hO
    have e := IV_end (by omega) hO (show IV (pS a pt) (a 5) bo n n ab by rw [← show i = n from hik]; rw [← show i = n from hik] at hI; exact hI)
    rw [← nxt_next] at e
    rw [e]
    have e3 := H.2.2.2.2.2.1.1
    cases f with
    | zero => rw [lp_stat, lp_mstat, e3]; exact ⟨rfl, H⟩
    | succ f => rw [lp_stat, lp_mstat, if_pos (by decide), e3]; exact ⟨rfl, H⟩
  | k + 1, i, f, z, bo, zm, g, q, pp, dd, a, th, it, go, ab, H, hz, hik, hf, hit, hz4, hgo, hI => by
    have hO := Rl_OR H
    have hQ := Rl_QS H pt
    rw [hz] at hO hQ
    have hbi : bo i < z 0 := by rw [hz]; exact hO.1 i (by omega)
    obtain ⟨⟨⟨h0, h1, -, -, h4, -⟩, -⟩, -⟩ := H.2.1 (bo i) hbi
    rw [lp_stat, h0, h1, h4]
    by_cases c0 : a 4 (bo i) = pt
    · by_cases c6 : a 6 (bo i) = 6
      · rw [if_pos c0, if_pos c6]
        exact eq_stat1 pt n hn k (i + 1) f z bo zm g q pp dd a th it go ab H hz (by omega) (by omega) hit (by omega) hgo (IV_skip hI (fun h => h.2 c6))
      · rw [if_pos c0, if_neg c6]
        obtain ⟨f, rfl⟩ : ∃ f', f = f' + 1 := ⟨f - 1, by omega⟩
        have e := IV_hit (by omega) hO hQ hI (by omega) ⟨c0, c6⟩
        have hI2 := IV_on hO hQ hI (by omega) ⟨c0, c6⟩
        rw [← nxt_next] at e
        rw [e, lp_mstat, if_neg (nI_pos (show bo i < 2 ^ 31 by omega)), nI_clamp (show bo i < 2 ^ 31 by omega)]
        by_cases c3 : a 6 (bo i) = 3 ∨ a 6 (bo i) = 5
        · rw [if_pos c3, if_pos c3, show bI (a 6 (bo i) = 3 ∨ a 6 (bo i) = 5) = 1 from if_pos c3]
          by_cases cg : go = 0
          · have ei : it = 1 := by rw [hit, if_pos cg]
            rw [if_pos cg, if_neg (by rw [ei]; decide)]
            have K := Rl_rowN H (show z 4 < 200 by omega) (a 5 (bo i))
            have G := eq_stat1 pt n hn k (i + 1) f _ bo _ g _ pp dd _ th 0 1 (a 5 (bo i)) K hz (by omega) (by omega) (by decide) (show z 4 + 1 ≤ i + 1 by omega) (fun _ => Nat.succ_pos _) hI2
            rw [lp_next_cg (m := n) (n := n) (a := a) (a' := va_up (va_up (va_up a 23 (upd (a 23) (zm 3) (a 5 (bo i)))) 24 (upd (a 24) (zm 3) (a 5 (bo i)))) 25 (upd (a 25) (zm 3) 1)) rfl rfl rfl rfl] at G
            exact G
          · have ei : it = 0 := by rw [hit, if_neg cg]
            rw [if_neg cg, if_pos ei]
            have K := Rl_rowM H (hgo cg) (a 5 (bo i))
            have G := eq_stat1 pt n hn k (i + 1) f _ bo _ g _ pp dd _ th 0 1 (a 5 (bo i)) K hz (by omega) (by omega) (by decide) (show z 4 ≤ i + 1 by omega) (fun _ => hgo cg) hI2
            rw [lp_next_cg (m := n) (n := n) (a := a) (a' := va_up (va_up a 24 (upd (a 24) (zm 3 - 1) (a 5 (bo i)))) 25 (upd (a 25) (zm 3 - 1) (a 25 (zm 3 - 1) + 1))) rfl rfl rfl rfl] at G
            exact G
        · rw [if_neg c3, if_neg c3, show bI (a 6 (bo i) = 3 ∨ a 6 (bo i) = 5) = 0 from if_neg c3]
          exact eq_stat1 pt n hn k (i + 1) f z bo zm g q pp dd a th 1 0 _ H hz (by omega) (by omega) (by decide) (by omega) (fun h => absurd rfl h) hI2
    · rw [if_neg c0]
      exact eq_stat1 pt n hn k (i + 1) f z bo zm g q pp dd a th it go ab H hz (by omega) (by omega) hit (by omega) hgo (IV_skip hI (fun h => c0 h.1))
theorem eq_statement {z bo zm : Nat → Nat} {g q pp dd a : Nat → Nat → Int32} {th : Int32} (H : Rl z bo g q pp dd zm a) (pt : Int32) : E2 (s_X_statement z bo g q pp dd pt) (s_M_statement th zm a pt) := by
  unfold s_X_statement s_M_statement
  by_cases c : 0 ≤ pt ∧ pt ≤ 9
  · rw [if_pos c, if_pos c, ← H.1.1]
    have H' : Rl (va_up z 4 0) bo g q pp dd (va_up zm 3 0) a := by
      obtain ⟨z0, hA, hU, hRR, hN, hS, hO, hQ, hV⟩ := H
      exact ⟨z0, hA, hU, hRR, hN, ⟨rfl, Nat.zero_le _, fun t ht => absurd ht (Nat.not_lt_zero t)⟩, hO, hQ, hV⟩
    have z2 := H.1.2.1
    exact eq_stat1 pt (z 0) z2 (z 0) 0 10000 _ bo _ g q pp dd a 0 1 0 0 H' rfl (by omega) (by omega) (by decide) (Nat.le_refl _) (fun h => absurd rfl h) (Rl_IV0 H _)
  · rw [if_neg c, if_neg c]; exact E2_id H
