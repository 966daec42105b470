theorem insP_le {bo : Nat → Nat} {g : Nat → Nat → Int32} {x : Int32} : ∀ k, insP bo g x k ≤ k
  | 0 => Nat.le_refl _
  | k + 1 => by
    unfold insP
    split
    · exact Nat.le_refl _
    · exact Nat.le_succ_of_le (insP_le k)
theorem insP_hi {bo : Nat → Nat} {g : Nat → Nat → Int32} {x : Int32} : ∀ k t, insP bo g x k ≤ t → t < k → x < g (bo t) 1
  | 0, t, _, h => absurd h (Nat.not_lt_zero t)
  | k + 1, t, h1, h2 => by
    unfold insP at h1
    by_cases c : g (bo k) 1 ≤ x
    · rw [if_pos c] at h1; omega
    · rw [if_neg c] at h1
      by_cases e : t = k
      · subst e; exact Int32.not_le.mp c
      · exact insP_hi k t h1 (by omega)
theorem insP_lo {bo : Nat → Nat} {g : Nat → Nat → Int32} {x : Int32} : ∀ k, 0 < insP bo g x k → g (bo (insP bo g x k - 1)) 1 ≤ x
  | 0, h => absurd h (Nat.lt_irrefl 0)
  | k + 1, h => by
    unfold insP at h ⊢
    by_cases c : g (bo k) 1 ≤ x
    · rw [if_pos c]; exact c
    · rw [if_neg c] at h ⊢; exact insP_lo k h
theorem insP_cg {bo : Nat → Nat} {g g' : Nat → Nat → Int32} {x : Int32} : ∀ k, (∀ t, t < k → g' (bo t) 1 = g (bo t) 1) → insP bo g' x k = insP bo g x k
  | 0, _ => rfl
  | k + 1, h => by
    unfold insP
    rw [h k (by omega), insP_cg k (fun t ht => h t (by omega))]
theorem SO_ins {n : Nat} {bo : Nat → Nat} {g : Nat → Nat → Int32} {h : Nat → Int32} (H : SO n bo g) : SO (n + 1) (insB bo (insP bo (va_up g n h) (h 1) n) n) (va_up g n h) := by
  obtain ⟨h1, h2, h3⟩ := H
  have hP := insP_le (bo := bo) (g := va_up g n h) (x := h 1) n
  have hhi := insP_hi (bo := bo) (g := va_up g n h) (x := h 1) n
  have hlo := insP_lo (bo := bo) (g := va_up g n h) (x := h 1) n
  generalize insP bo (va_up g n h) (h 1) n = P at hP hhi hlo ⊢
  have old : ∀ t, t < n → va_up g n h (bo t) 1 = g (bo t) 1 := fun t ht => by
    rw [va_up_ne _ _ (show bo t ≠ n by have := h1 t ht; omega)]
  have new : va_up g n h n 1 = h 1 := by rw [va_up_self]
  have lo : ∀ t, t < P → g (bo t) 1 ≤ h 1 := by
    intro t ht
    have q := hlo (by omega)
    rw [old _ (by omega)] at q
    by_cases e : t = P - 1
    · rw [e]; exact q
    · exact Int32.le_trans (h3 t (P - 1) (by omega) (by omega)) q
  have hi : ∀ t, P ≤ t → t < n → h 1 < g (bo t) 1 := by
    intro t ht htn
    have q := hhi t ht htn
    rwa [old t htn] at q
  have iL : ∀ t, t < P → insB bo P n t = bo t := fun t ht => by unfold insB; rw [if_pos ht]
  have iE : insB bo P n P = n := by unfold insB; rw [if_neg (Nat.lt_irrefl P), if_pos rfl]
  have iG : ∀ t, P < t → insB bo P n t = bo (t - 1) := fun t ht => by unfold insB; rw [if_neg (by omega), if_neg (by omega)]
  refine ⟨fun t ht => ?_, fun s t hs ht e => ?_, fun s t hst ht => ?_⟩
  · rcases Nat.lt_trichotomy t P with c | c | c
    · rw [iL t c]; have := h1 t (by omega); omega
    · rw [c, iE]; omega
    · rw [iG t c]; have := h1 (t - 1) (by omega); omega
  · rcases Nat.lt_trichotomy s P with c | c | c <;> rcases Nat.lt_trichotomy t P with d | d | d
    · rw [iL s c, iL t d] at e; exact h2 s t (by omega) (by omega) e
    · rw [iL s c, d, iE] at e; have := h1 s (by omega); omega
    · rw [iL s c, iG t d] at e; have := h2 s (t - 1) (by omega) (by omega) e; omega
    · rw [c, iE, iL t d] at e; have := h1 t (by omega); omega
    · omega
    · rw [c, iE, iG t d] at e; have := h1 (t - 1) (by omega); omega
    · rw [iG s c, iL t d] at e; have := h2 (s - 1) t (by omega) (by omega) e; omega
    · rw [iG s c, d, iE] at e; have := h1 (s - 1) (by omega); omega
    · rw [iG s c, iG t d] at e; have := h2 (s - 1) (t - 1) (by omega) (by omega) e; omega
  · rcases Nat.lt_trichotomy s P with c | c | c <;> rcases Nat.lt_trichotomy t P with d | d | d
    · rw [iL s c, iL t d, old s (by omega), old t (by omega)]; exact h3 s t hst (by omega)
    · rw [iL s c, d, iE, old s (by omega), new]; exact lo s c
    · rw [iL s c, iG t d, old s (by omega), old (t - 1) (by omega)]
      exact Int32.le_trans (lo s c) (Int32.le_of_lt (hi (t - 1) (by omega) (by omega)))
    · omega
    · omega
    · rw [c, iE, iG t d, new, old (t - 1) (by omega)]; exact Int32.le_of_lt (hi (t - 1) (by omega) (by omega))
    · omega
    · omega
    · rw [iG s c, iG t d, old (s - 1) (by omega), old (t - 1) (by omega)]; exact h3 (s - 1) (t - 1) (by omega) (by omega)
section EQ
variable {z bo zm : Nat → Nat} {g q pp dd a : Nat → Nat → Int32} {th : Int32}
/-- a new issue on both sides -/
theorem Rl_new {h : Nat → Int32} {a' : Nat → Nat → Int32} (H : Rl z bo g q pp dd zm a) (hn : z 0 < 200) (hC : CJ a a' (z 0)) (hG : GA a a') (hR : RI h (fun _ => 0) (fun _ => 0) a' (z 0)) (hI : II h) (h5 : h 4 ≠ 5) (h9 : h 9 = -1) (hu : ∀ i, i < z 0 → g i 0 = h 0 → g i 1 = h 1 → g i 4 = 6 ∨ h 4 = 6) :
    Rl (va_up z 0 (z 0 + 1)) (insB bo (insP bo (va_up g (z 0) h) (h 1) (z 0)) (z 0)) (va_up g (z 0) h) q (va_up pp (z 0) (fun _ => 0)) (va_up dd (z 0) (fun _ => 0)) (va_up zm 0 (zm 0 + 1)) a' := by
  obtain ⟨z0, hA, hU, hRR, hN, hS, hO, hQ, hV⟩ := H
  obtain ⟨e1, e2, e3, e21, e22, e23, e24, e25, e26, e27⟩ := hG
  have z15 : ∀ i, z 0 + 1 ≤ i → a' 15 i = 0 := fun i hi => by
    rcases hC 15 with e | ⟨_, _, x, e⟩ | ⟨e, _⟩
    · rw [e]; exact z0.2.2 i (by omega)
    · rw [e, pk_un (by omega)]; exact z0.2.2 i (by omega)
    · omega
  have gn : ∀ i, i < z 0 → va_up g (z 0) h i = g i := fun i hi => va_up_ne _ _ (by omega)
  refine ⟨⟨show z 0 + 1 = zm 0 + 1 by rw [z0.1], show z 0 + 1 ≤ 200 by omega, z15⟩, ?_, ?_, ⟨hRR.1, hRR.2.1, ?_⟩, ⟨hN.1, hN.2.1, ?_⟩, ⟨hS.1, hS.2.1, ?_⟩, SO_ins hO, ?_, ?_⟩
  · intro i hi
    have hi' : i < z 0 + 1 := hi
    by_cases e : i = z 0
    · subst e; rw [va_up_self, va_up_self, va_up_self]; exact ⟨hR, hI⟩
    · rw [va_up_ne _ _ e, va_up_ne _ _ e, va_up_ne _ _ e]
      exact ⟨RI_other (hA i (by omega)).1 e hC, (hA i (by omega)).2⟩
  · intro k hk; rw [e1, e2, e3]; exact hU k hk
  · rw [e21, e22]; exact hRR.2.2
  · rw [e26, e27]; exact hN.2.2
  · rw [e23, e24, e25]; exact hS.2.2
  · intro i k hi hk hik
    have hi' : i < z 0 + 1 := hi
    have hk' : k < z 0 + 1 := hk
    by_cases ei : i = z 0
    · have ek : k < z 0 := by omega
      rw [ei, va_up_self, gn k ek]
      intro x0 x1
      exact (hu k ek x0.symm x1.symm).symm
    · have ei' : i < z 0 := by omega
      by_cases ek : k = z 0
      · rw [ek, va_up_self, gn i ei']
        exact hu i ei'
      · rw [gn i ei', gn k (by omega)]; exact hQ i k ei' (by omega) hik
  · obtain ⟨c1, c2, e, c3, c4, c5, c6, c7, c8, c9, c10⟩ := hV
    refine ⟨c1, c2, e, c3, c4, c5, ?_, ?_, ?_, ?_, ?_⟩
    · show e (z 3) = cB (va_up g (z 0) h) (z 0 + 1)
      rw [cB, cB_ne (z 0) (Nat.le_refl _), va_up_self, if_neg h5]; exact c6
    · intro w t hw q1 q2
      obtain ⟨i, hi, r1, r2, r3⟩ := c7 w t hw q1 q2
      exact ⟨i, show i < z 0 + 1 by omega, r1, by rw [gn i hi]; exact r2, by rw [gn i hi]; exact r3⟩
    · intro w s t i j hw hs hst ht hi hj qi qj
      have lt : ∀ x u, e w ≤ u → u < e (w + 1) → q 7 u = nI x → x < z 0 + 1 → x < z 0 := by
        intro x u u1 u2 ux hx
        obtain ⟨i', hi', r1, -, -⟩ := c7 w u hw u1 u2
        have : nI x = nI i' := ux.symm.trans r1
        rw [nI_eq (by omega) (by omega)] at this
        omega
      have li := lt i s hs (by omega) qi hi
      have lj := lt j t (by omega) ht qj hj
      rw [gn i li, gn j lj]
      exact c8 w s t i j hw hs hst ht li lj qi qj
    · intro i hi q5
      have hi' : i < z 0 + 1 := hi
      by_cases ei : i = z 0
      · rw [ei, va_up_self] at q5; exact absurd q5 h5
      · rw [gn i (by omega)] at q5 ⊢
        exact c9 i (by omega) q5
    · intro i hi q5
      have hi' : i < z 0 + 1 := hi
      by_cases ei : i = z 0
      · rw [ei, va_up_self]; exact h9
      · rw [gn i (by omega)] at q5 ⊢
        exact c10 i (by omega) q5
end EQ
