theorem mvol_0 {th : Int32} {z : Nat → Nat} {a : Nat → Nat → Int32} {v x fo ab : Int32} : ∀ (k kk : Nat), lp_mvol th z a v x k fo ab 0 kk = (0, 1, z, a)
  | 0, kk => by
    rw [lp_mvol]
    by_cases c : x < nI kk
    · rw [if_pos c, if_pos rfl, if_pos rfl]
    · rw [if_neg c, if_pos rfl, if_pos rfl]
  | k + 1, kk => by
    rw [lp_mvol]
    by_cases c : x < nI kk
    · rw [if_pos c, if_pos rfl, if_pos rfl]
    · rw [if_neg c, if_pos rfl, if_pos rfl, if_pos rfl]
theorem mvol_x {th : Int32} {z : Nat → Nat} {a : Nat → Nat → Int32} {v x fo ab : Int32} : ∀ (k kk : Nat), x < nI kk → lp_mvol th z a v x k fo ab 1 kk = (fo, 0, z, a)
  | 0, kk, c => by rw [lp_mvol, if_pos c, if_neg (by decide), if_neg (by decide)]
  | k + 1, kk, c => by rw [lp_mvol, if_pos c, if_neg (by decide), if_neg (by decide)]
/-- volume v has the members mm 0 .. mm (ed - 1) -/
theorem vol_lp {th : Int32} {z : Nat → Nat} {a : Nat → Nat → Int32} {v : Int32} {mm : Nat → Nat} {ed X : Nat} (hX : X < 2 ^ 31) (hed : ed ≤ 200) (hz : z 0 ≤ 200) (h1 : ∀ s, s < ed → mm s < z 0 ∧ pV a v (mm s)) (h2 : ∀ s t, s < t → t < ed → a 5 (mm s) < a 5 (mm t)) (h3 : ∀ x, x < z 0 → pV a v x → ∃ s, s < ed ∧ mm s = x) : ∀ (d k kk : Nat) (fo ab : Int32), kk + d = ed → d < k → kk ≤ X + 1 → (kk = X + 1 → fo = nI (mm X)) → (∀ s, s < kk → a 5 (mm s) ≤ ab) → (∀ s, kk ≤ s → s < ed → ab < a 5 (mm s)) → lp_mvol th z a v (nI X) k fo ab 1 kk = if X < ed then (nI (mm X), 0, z, a) else (0, 1, z, a)
  | d, 0, kk, fo, ab, e1, e2, e3, e4, e5, e6 => absurd e2 (Nat.not_lt_zero d)
  | d, k + 1, kk, fo, ab, e1, e2, e3, e4, e5, e6 => by
    by_cases c : kk = X + 1
    · rw [mvol_x (k + 1) kk (by rw [nI_ltI hX (by omega)]; omega), if_pos (by omega), e4 c]
    · have n1 : ¬ nI X < nI kk := by rw [nI_ltI hX (by omega)]; omega
      rw [lp_mvol, if_neg n1, if_neg (by decide), nxt_vol]
      by_cases ck : kk < ed
      · obtain ⟨m1, m2⟩ := h1 kk ck
        have m3 := e6 kk (Nat.le_refl _) ck
        have en : nxt (pV a v) (a 5) ab (z 0) 0 (-1) = nI (mm kk) := by
          rcases nxt_NX (P := pV a v) (o := a 5) (ab := ab) (n := z 0) (by omega) with ⟨_, q⟩ | ⟨j, hj, e, pj, aj, q⟩
          · exact absurd m3 (Int32.not_lt.mpr (q _ m1 m2))
          · rw [e]
            obtain ⟨s, hs, rfl⟩ := h3 j hj pj
            by_cases c1 : s < kk
            · exact absurd aj (Int32.not_lt.mpr (e5 s c1))
            · by_cases c2 : s = kk
              · rw [c2]
              · exact absurd (q _ m1 m2 m3) (Int32.not_le.mpr (h2 kk s (by omega) hs))
        rw [en, if_neg (nI_pos (by omega)), nI_clamp (by omega)]
        obtain ⟨d, rfl⟩ : ∃ d', d = d' + 1 := ⟨d - 1, by omega⟩
        refine vol_lp hX hed hz h1 h2 h3 d k (kk + 1) _ _ (by omega) (by omega) (by omega) (fun h => by rw [show kk = X by omega]) (fun s hs => ?_) (fun s hs hse => h2 kk s (by omega) hse)
        by_cases c1 : s = kk
        · rw [c1]; exact Int32.le_refl _
        · exact Int32.le_of_lt (h2 s kk (by omega) ck)
      · have en : nxt (pV a v) (a 5) ab (z 0) 0 (-1) = -1 := by
          rcases nxt_NX (P := pV a v) (o := a 5) (ab := ab) (n := z 0) (by omega) with ⟨e, _⟩ | ⟨j, hj, e, pj, aj, q⟩
          · exact e
          · obtain ⟨s, hs, rfl⟩ := h3 j hj pj
            exact absurd aj (Int32.not_lt.mpr (e5 s (by omega)))
        rw [en, if_pos (by decide), mvol_0, if_neg (by omega)]
section EQ
variable {z bo zm : Nat → Nat} {g q pp dd a : Nat → Nat → Int32} {th : Int32}
theorem eq_volume_out (H : Rl z bo g q pp dd zm a) {v x : Int32} (hv : ¬ (0 ≤ v ∧ v < nI (z 3))) : s_M_volume th zm a v x = (0, 1, zm, a) := by
  obtain ⟨e3, l3, -⟩ := Rl_e3 H
  unfold s_M_volume
  rw [← e3, if_neg (fun h => hv ⟨h.1, (le_pr (by omega)).mp h.2⟩), mvol_0]
theorem eq_volume (H : Rl z bo g q pp dd zm a) {j : Nat} (hj : j < z 3) : ∃ e0 ed, e0 + ed ≤ 200 ∧ q 8 j = nI e0 ∧ q 8 (j + 1) = nI (e0 + ed) ∧ ∀ x, s_M_volume th zm a (nI j) x = if 0 ≤ x ∧ x < nI ed then (q 7 (e0 + x.toNatClampNeg), 0, zm, a) else (0, 1, zm, a) := by
  obtain ⟨e3, l3, -⟩ := Rl_e3 H
  obtain ⟨c1, c2, e, c3, c4, c5, c6, c7, c8, c9, c10⟩ := H.2.2.2.2.2.2.2.2
  have z0 := H.1.1
  have z2 := H.1.2.1
  have hA := H.2.1
  have m1 := c5 j hj
  have M : e (j + 1) ≤ z 0 := by
    have := VO_mono c5 (z 3 - (j + 1)) (j + 1) (by omega)
    rw [show j + 1 + (z 3 - (j + 1)) = z 3 by omega, c6] at this
    exact Nat.le_trans this (cB_le _)
  refine ⟨e j, e (j + 1) - e j, by omega, c4 j (by omega), by rw [c4 (j + 1) (by omega)]; congr 1; omega, fun x => ?_⟩
  have mem : ∀ s, s < e (j + 1) - e j → ∃ i, i < z 0 ∧ q 7 (e j + s) = nI i ∧ g i 9 = nI j ∧ g i 4 = 5 := fun s hs => c7 j (e j + s) hj (by omega) (by omega)
  have V : ∀ i, i < z 0 → (pV a (nI j) i ↔ g i 9 = nI j) := fun i hi => by
    show a 12 i = nI j ↔ _
    rw [(hA i hi).1.1.2.2.2.2.2.2.2.2.1]
  have O : ∀ i, i < z 0 → a 5 i = g i 1 := fun i hi => (hA i hi).1.1.2.1.symm
  unfold s_M_volume
  rw [← e3]
  have d1 : 0 ≤ nI j ∧ nI j ≤ nI (z 3) - 1 := by
    refine ⟨Int32.not_lt.mp (nI_pos (by omega)), (le_pr (by omega)).mpr ?_⟩
    rw [nI_ltI (by omega) (by omega)]; exact hj
  rw [if_pos d1]
  by_cases cx : x < 0
  · rw [if_pos cx, mvol_0, if_neg (fun h => absurd cx (Int32.not_lt.mpr h.1))]
  · rw [if_neg cx]
    obtain ⟨X, hX, rfl⟩ := nI_of cx
    have fe : ∀ s, s < e (j + 1) - e j → q 7 (e j + s) = nI (q 7 (e j + s)).toNatClampNeg := fun s hs => by
      obtain ⟨i, hi, r1, -⟩ := mem s hs
      rw [r1, nI_clamp (by omega)]
    have K := vol_lp (th := th) (z := zm) (a := a) (v := nI j) (mm := fun s => (q 7 (e j + s)).toNatClampNeg) (ed := e (j + 1) - e j) (X := X) hX (by omega) (by omega)
      (fun s hs => by
        obtain ⟨i, hi, r1, r2, r3⟩ := mem s hs
        show (q 7 (e j + s)).toNatClampNeg < zm 0 ∧ pV a (nI j) (q 7 (e j + s)).toNatClampNeg
        rw [r1, nI_clamp (by omega)]
        exact ⟨by omega, (V i hi).mpr r2⟩)
      (fun s t hst ht => by
        obtain ⟨i, hi, r1, r2, r3⟩ := mem s (by omega)
        obtain ⟨i', hi', r1', r2', r3'⟩ := mem t ht
        show a 5 (q 7 (e j + s)).toNatClampNeg < a 5 (q 7 (e j + t)).toNatClampNeg
        rw [r1, r1', nI_clamp (by omega), nI_clamp (by omega), O i hi, O i' hi']
        exact c8 j (e j + s) (e j + t) i i' hj (by omega) (by omega) (by omega) hi hi' r1 r1')
      (fun y hy py => by
        have hy : y < z 0 := by omega
        have g9 := (V y hy).mp py
        by_cases c : g y 4 = 5
        · obtain ⟨w, t, q1, q2, q3, q4, q5⟩ := c9 y hy c
          have ew : w = j := by
            have := q2.symm.trans g9
            rwa [nI_eq (by omega) (by omega)] at this
          subst ew
          refine ⟨t - e w, by omega, ?_⟩
          show (q 7 (e w + (t - e w))).toNatClampNeg = y
          rw [show e w + (t - e w) = t by omega, q5, nI_clamp (by omega)]
        · have : (-1 : Int32) = nI j := (c10 y hy c).symm.trans g9
          rw [← Int32.toInt_inj, nI_toInt (by omega), Tm1] at this; omega)
      (e (j + 1) - e j) 10000 0 (-1) 0 (by omega) (by omega) (by omega) (fun h => by omega) (fun s hs => absurd hs (Nat.not_lt_zero s)) (fun s _ hs => by
        obtain ⟨i, hi, r1, -⟩ := mem s hs
        show (0 : Int32) < a 5 (q 7 (e j + s)).toNatClampNeg
        rw [r1, nI_clamp (by omega)]
        have := (Rl_ord H hi).1
        rw [Int32.le_iff_toInt_le, T1] at this
        rw [Int32.lt_iff_toInt_lt, T0]; omega)
    rw [K]
    by_cases c : X < e (j + 1) - e j
    · have y : 0 ≤ nI X ∧ nI X < nI (e (j + 1) - e j) := ⟨Int32.not_lt.mp cx, by rw [nI_ltI hX (by omega)]; exact c⟩
      rw [if_pos c, if_pos y, nI_clamp hX, ← fe X c]
    · have y : ¬ (0 ≤ nI X ∧ nI X < nI (e (j + 1) - e j)) := fun h => c (by rw [nI_ltI hX (by omega)] at h; exact h.2)
      rw [if_neg c, if_neg y]
end EQ
