/-! THE TWO STATES SIDE BY SIDE (pure): the class's (z bo g q pp dd), the reference's (zm a). -/
/-- issue i: the class's record h, persons p, days d, and the reference's columns -/
def RI (h p d : Nat → Int32) (a : Nat → Nat → Int32) (i : Nat) : Prop :=
  (h 0 = a 4 i ∧ h 1 = a 5 i ∧ h 2 = a 7 i ∧ h 3 = a 15 i ∧ h 4 = a 6 i ∧ h 5 = a 8 i ∧ h 7 = a 10 i ∧ h 8 = a 11 i ∧ h 9 = a 12 i ∧ h 10 = a 13 i ∧ h 11 = a 14 i ∧ h 12 = a 16 i ∧ h 13 = a 19 i) ∧ (h 4 = 2 → h 6 = a 9 i) ∧ (0 ≤ h 13 → h 14 = a 20 i) ∧ (∀ t : Nat, t < 8 → nI t < h 12 → p t = a 17 (8 * i + t) ∧ d t = a 18 (8 * i + t))
/-- what holds of every record -/
def II (h : Nat → Int32) : Prop := (0 ≤ h 0 ∧ h 0 ≤ 9) ∧ (1 ≤ h 1 ∧ h 1 ≤ 9999) ∧ (-1 ≤ h 2 ∧ h 2 ≤ 1000000) ∧ (0 ≤ h 12 ∧ h 12 ≤ 8) ∧ (-1 ≤ h 13 ∧ h 13 ≤ h 12) ∧ (0 ≤ h 11 ∧ h 11 ≤ 1000000000) ∧ -1 ≤ h 8
def RA (n : Nat) (g pp dd a : Nat → Nat → Int32) : Prop := ∀ i, i < n → RI (g i) (pp i) (dd i) a i ∧ II (g i)
def RU (q a : Nat → Nat → Int32) : Prop := ∀ p, p < 10 → q 0 p = a 1 p ∧ q 1 p = a 2 p ∧ q 2 p = a 3 p
def RR (n m : Nat) (q a : Nat → Nat → Int32) : Prop := n = m ∧ n ≤ 200 ∧ ∀ t, t < n → q 3 t = a 21 t ∧ q 4 t = a 22 t
def RN (n m : Nat) (q a : Nat → Nat → Int32) : Prop := n = m ∧ n ≤ 100 ∧ ∀ t, t < n → q 5 t = a 26 t ∧ q 6 t = a 27 t
def RS (n m : Nat) (q a : Nat → Nat → Int32) : Prop := n = m ∧ n ≤ 200 ∧ ∀ t, t < n → q 9 t = a 23 t ∧ q 10 t = a 24 t ∧ q 11 t = a 25 t
/-- the order by ordinals -/
def SO (n : Nat) (bo : Nat → Nat) (g : Nat → Nat → Int32) : Prop := (∀ t, t < n → bo t < n) ∧ (∀ s t, s < n → t < n → bo s = bo t → s = t) ∧ (∀ s t, s < t → t < n → g (bo s) 1 ≤ g (bo t) 1)
/-- of one pattern and ordinal all but one are gone -/
def UQ (n : Nat) (g : Nat → Nat → Int32) : Prop := ∀ i j, i < n → j < n → i ≠ j → g i 0 = g j 0 → g i 1 = g j 1 → g i 4 = 6 ∨ g j 4 = 6
/-- the volumes: e v is where volume v begins -/
def VO (n v m : Nat) (g q : Nat → Nat → Int32) : Prop := v = m ∧ v ≤ 40 ∧ ∃ e : Nat → Nat, e 0 = 0 ∧ (∀ w, w ≤ v → q 8 w = nI (e w)) ∧ (∀ w, w < v → e w ≤ e (w + 1)) ∧ e v = cB g n ∧
  (∀ w t, w < v → e w ≤ t → t < e (w + 1) → ∃ i, i < n ∧ q 7 t = nI i ∧ g i 9 = nI w ∧ g i 4 = 5) ∧
  (∀ w s t i j, w < v → e w ≤ s → s < t → t < e (w + 1) → i < n → j < n → q 7 s = nI i → q 7 t = nI j → g i 1 < g j 1) ∧
  (∀ i, i < n → g i 4 = 5 → ∃ w t, w < v ∧ g i 9 = nI w ∧ e w ≤ t ∧ t < e (w + 1) ∧ q 7 t = nI i) ∧
  (∀ i, i < n → g i 4 ≠ 5 → g i 9 = -1)
def Rl (z bo : Nat → Nat) (g q pp dd : Nat → Nat → Int32) (zm : Nat → Nat) (a : Nat → Nat → Int32) : Prop :=
  (z 0 = zm 0 ∧ z 0 ≤ 200 ∧ ∀ i, z 0 ≤ i → a 15 i = 0) ∧ RA (z 0) g pp dd a ∧ RU q a ∧ RR (z 1) (zm 1) q a ∧ RN (z 2) (zm 4) q a ∧ RS (z 4) (zm 3) q a ∧ SO (z 0) bo g ∧ UQ (z 0) g ∧ VO (z 0) (z 3) (zm 2) g q
/-- the answers are one, and the states go on side by side -/
def E2 (R : XS) (T : MS) : Prop := R.1 = T.1 ∧ Rl R.2.1 R.2.2.1 R.2.2.2.1 R.2.2.2.2.1 R.2.2.2.2.2.1 R.2.2.2.2.2.2 T.2.2.1 T.2.2.2
theorem RI_frame {h p d : Nat → Int32} {a a' : Nat → Nat → Int32} {i : Nat} (H : RI h p d a i) (e4 : a' 4 i = a 4 i) (e5 : a' 5 i = a 5 i) (e6 : a' 6 i = a 6 i) (e7 : a' 7 i = a 7 i) (e8 : a' 8 i = a 8 i) (e9 : a' 9 i = a 9 i) (e10 : a' 10 i = a 10 i) (e11 : a' 11 i = a 11 i) (e12 : a' 12 i = a 12 i) (e13 : a' 13 i = a 13 i) (e14 : a' 14 i = a 14 i) (e15 : a' 15 i = a 15 i) (e16 : a' 16 i = a 16 i) (e19 : a' 19 i = a 19 i) (e20 : a' 20 i = a 20 i)
    (e17 : ∀ t, t < 8 → a' 17 (8 * i + t) = a 17 (8 * i + t)) (e18 : ∀ t, t < 8 → a' 18 (8 * i + t) = a 18 (8 * i + t)) : RI h p d a' i := by
  obtain ⟨⟨h0, h1, h2, h3, h4, h5, h7, h8, h9, h10, h11, h12, h13⟩, hb, hc, hd⟩ := H
  refine ⟨⟨?_, ?_, ?_, ?_, ?_, ?_, ?_, ?_, ?_, ?_, ?_, ?_, ?_⟩, ?_, ?_, ?_⟩
  · rw [e4]; exact h0
  · rw [e5]; exact h1
  · rw [e7]; exact h2
  · rw [e15]; exact h3
  · rw [e6]; exact h4
  · rw [e8]; exact h5
  · rw [e10]; exact h7
  · rw [e11]; exact h8
  · rw [e12]; exact h9
  · rw [e13]; exact h10
  · rw [e14]; exact h11
  · rw [e16]; exact h12
  · rw [e19]; exact h13
  · rw [e9]; exact hb
  · rw [e20]; exact hc
  · intro t ht h8; rw [e17 t ht, e18 t ht]; exact hd t ht h8
/-- one issue changes, the others' columns stay -/
theorem RA_set {n j : Nat} {g pp dd a a' : Nat → Nat → Int32} {h p d : Nat → Int32} (H : RA n g pp dd a) (hj : RI h p d a' j ∧ II h) (ho : ∀ i, i < n → i ≠ j → RI (g i) (pp i) (dd i) a i → RI (g i) (pp i) (dd i) a' i) : RA n (va_up g j h) (va_up pp j p) (va_up dd j d) a' := by
  intro i hi
  by_cases e : i = j
  · subst e; rw [va_up_self, va_up_self, va_up_self]; exact hj
  · rw [va_up_ne _ _ e, va_up_ne _ _ e, va_up_ne _ _ e]; exact ⟨ho i hi e (H i hi).1, (H i hi).2⟩
theorem RA_setg {n j : Nat} {g pp dd a a' : Nat → Nat → Int32} {h : Nat → Int32} (H : RA n g pp dd a) (hj : RI h (pp j) (dd j) a' j ∧ II h) (ho : ∀ i, i < n → i ≠ j → RI (g i) (pp i) (dd i) a i → RI (g i) (pp i) (dd i) a' i) : RA n (va_up g j h) pp dd a' := by
  have := RA_set (p := pp j) (d := dd j) H hj ho
  rwa [va_up_id, va_up_id] at this
theorem SO_set {n j : Nat} {bo : Nat → Nat} {g : Nat → Nat → Int32} {h : Nat → Int32} (H : SO n bo g) (h1 : h 1 = g j 1) : SO n bo (va_up g j h) :=
  ⟨H.1, H.2.1, fun s t hs ht => by rw [va_up_f h1, va_up_f h1]; exact H.2.2 s t hs ht⟩
theorem UQ_set {n j : Nat} {g : Nat → Nat → Int32} {h : Nat → Int32} (H : UQ n g) (h0 : h 0 = g j 0) (h1 : h 1 = g j 1) (h4 : g j 4 = 6 → h 4 = 6) : UQ n (va_up g j h) := by
  intro i k hi hk hik
  rw [va_up_f h0, va_up_f h0, va_up_f h1, va_up_f h1]
  intro e0 e1
  have q := H i k hi hk hik e0 e1
  have up : ∀ x, g x 4 = 6 → va_up g j h x 4 = 6 := by
    intro x hx
    by_cases e : x = j
    · subst e; rw [va_up_self]; exact h4 hx
    · rw [va_up_ne _ _ e]; exact hx
  exact q.imp (up i) (up k)
theorem cB_same {g g' : Nat → Nat → Int32} : ∀ n, (∀ i, i < n → (g' i 4 = 5 ↔ g i 4 = 5)) → cB g' n = cB g n
  | 0, _ => rfl
  | n + 1, h => by
    unfold cB
    rw [cB_same n (fun i hi => h i (by omega))]
    by_cases c : g n 4 = 5
    · rw [if_pos c, if_pos ((h n (by omega)).mpr c)]
    · rw [if_neg c, if_neg (fun q => c ((h n (by omega)).mp q))]
theorem VO_same {n v m : Nat} {g g' q q' : Nat → Nat → Int32} (H : VO n v m g q) (h4 : ∀ i, i < n → (g' i 4 = 5 ↔ g i 4 = 5)) (h9 : ∀ i, i < n → g' i 9 = g i 9) (h1 : ∀ i, i < n → g' i 1 = g i 1) (e7 : q' 7 = q 7) (e8 : q' 8 = q 8) : VO n v m g' q' := by
  obtain ⟨c1, c2, e, c3, c4, c5, c6, c7, c8, c9, c10⟩ := H
  refine ⟨c1, c2, e, c3, ?_, c5, ?_, ?_, ?_, ?_, ?_⟩
  · rw [e8]; exact c4
  · rw [cB_same n h4]; exact c6
  · intro w t hw h1' h2'
    obtain ⟨i, hi, q1, q2, q3⟩ := c7 w t hw h1' h2'
    exact ⟨i, hi, by rw [e7]; exact q1, by rw [h9 i hi]; exact q2, (h4 i hi).mpr q3⟩
  · intro w s t i j hw hs hst ht hi hj
    rw [e7, h1 i hi, h1 j hj]
    exact c8 w s t i j hw hs hst ht hi hj
  · intro i hi h5
    obtain ⟨w, t, q1, q2, q3, q4, q5⟩ := c9 i hi ((h4 i hi).mp h5)
    exact ⟨w, t, q1, by rw [h9 i hi]; exact q2, q3, q4, by rw [e7]; exact q5⟩
  · intro i hi h5
    rw [h9 i hi]
    exact c10 i hi (fun q => h5 ((h4 i hi).mpr q))
theorem VO_set {n v m j : Nat} {g q q' : Nat → Nat → Int32} {h : Nat → Int32} (H : VO n v m g q) (h4 : h 4 = 5 ↔ g j 4 = 5) (h9 : h 9 = g j 9) (h1 : h 1 = g j 1) (e7 : q' 7 = q 7) (e8 : q' 8 = q 8) : VO n v m (va_up g j h) q' := by
  refine VO_same H (fun i _ => ?_) (fun i _ => va_up_f h9 i) (fun i _ => va_up_f h1 i) e7 e8
  by_cases e : i = j
  · subst e; rw [va_up_self]; exact h4
  · rw [va_up_ne _ _ e]
/-- the columns of another issue stay: each column is the old one, or the old one with place j written -/
theorem RI_other {h p d : Nat → Int32} {a a' : Nat → Nat → Int32} {i j : Nat} (H : RI h p d a i) (hij : i ≠ j) (hk : ∀ k, a' k = a k ∨ (k ≠ 17 ∧ k ≠ 18 ∧ ∃ x, a' k = upd (a k) j x) ∨ ((k = 17 ∨ k = 18) ∧ ∃ t x, t < 8 ∧ a' k = upd (a k) (8 * j + t) x)) : RI h p d a' i := by
  have col : ∀ k, k ≠ 17 → k ≠ 18 → a' k i = a k i := by
    intro k h17 h18
    rcases hk k with e | ⟨_, _, x, e⟩ | ⟨e, _⟩
    · rw [e]
    · rw [e, pk_un hij]
    · omega
  have big : ∀ k, (k = 17 ∨ k = 18) → ∀ t, t < 8 → a' k (8 * i + t) = a k (8 * i + t) := by
    intro k hk17 t ht
    rcases hk k with e | ⟨h1, h2, _⟩ | ⟨_, t', x, ht', e⟩
    · rw [e]
    · omega
    · rw [e, pk_un (by omega)]
  exact RI_frame H (col 4 (by decide) (by decide)) (col 5 (by decide) (by decide)) (col 6 (by decide) (by decide)) (col 7 (by decide) (by decide)) (col 8 (by decide) (by decide)) (col 9 (by decide) (by decide)) (col 10 (by decide) (by decide)) (col 11 (by decide) (by decide)) (col 12 (by decide) (by decide)) (col 13 (by decide) (by decide)) (col 14 (by decide) (by decide)) (col 15 (by decide) (by decide)) (col 16 (by decide) (by decide)) (col 19 (by decide) (by decide)) (col 20 (by decide) (by decide)) (big 17 (Or.inl rfl)) (big 18 (Or.inr rfl))
