section EQ
variable {z bo zm : Nat → Nat} {g q pp dd a : Nat → Nat → Int32} {th : Int32}
theorem Rl_e3 (H : Rl z bo g q pp dd zm a) : z 3 = zm 2 ∧ z 3 ≤ 40 ∧ q 8 (z 3) = nI (cB g (z 0)) := by
  obtain ⟨c1, c2, e, c3, c4, c5, c6, -⟩ := H.2.2.2.2.2.2.2.2
  exact ⟨c1, c2, by rw [c4 (z 3) (Nat.le_refl _), c6]⟩
theorem Rl_v9 (H : Rl z bo g q pp dd zm a) : ∀ x, x < z 0 → g x 9 ≠ nI (z 3) := by
  obtain ⟨c1, c2, e, c3, c4, c5, c6, c7, c8, c9, c10⟩ := H.2.2.2.2.2.2.2.2
  intro x hx h
  by_cases c : g x 4 = 5
  · obtain ⟨w, t, q1, q2, -⟩ := c9 x hx c
    have : nI w = nI (z 3) := q2.symm.trans h
    rw [nI_eq (by omega) (by omega)] at this; omega
  · have : (-1 : Int32) = nI (z 3) := (c10 x hx c).symm.trans h
    rw [← Int32.toInt_inj, nI_toInt (by omega), Tm1] at this; omega
theorem Rl_bind (H : Rl z bo g q pp dd zm a) {pt ab : Int32} {g' q' a' : Nat → Nat → Int32} (hG : GB (z 3) (z 0) (pH a pt) (a 5) ab g g') (hV : VO (z 0) (z 3 + 1) (z 3 + 1) g' q') (hq : ∀ c, c ≠ 7 → c ≠ 8 → q' c = q c) (ha : ∀ c, c ≠ 6 → c ≠ 12 → a' c = a c) (h1 : ∀ x, x < z 0 → pH a pt x → a 5 x ≤ ab → a' 6 x = 5 ∧ a' 12 x = nI (zm 2)) (h2 : ∀ x, ¬ (x < z 0 ∧ pH a pt x ∧ a 5 x ≤ ab) → a' 6 x = a 6 x ∧ a' 12 x = a 12 x) : Rl (va_up z 3 (z 3 + 1)) bo g' q' pp dd (va_up zm 2 (zm 2 + 1)) a' := by
  obtain ⟨z0, hA, hU, hR, hN, hS, hO, hQ, hVo⟩ := H
  have e3 := hVo.1
  have F : ∀ x, x < z 0 → ∀ f, f ≠ 4 → f ≠ 9 → g' x f = g x f := by
    intro x hx f f4 f9
    by_cases m : pH a pt x ∧ a 5 x ≤ ab
    · rw [hG.1 x hx m.1 m.2]
      show upd (upd (g x) 4 5) 9 (nI (z 3)) f = _
      rw [pk_un f9, pk_un f4]
    · rw [hG.2 x hx m]
  have F6 : ∀ x, x < z 0 → g x 4 = 6 → g' x 4 = 6 := by
    intro x hx h6
    by_cases m : pH a pt x ∧ a 5 x ≤ ab
    · have := (hA x hx).1.1.2.2.2.2.1
      rw [h6, m.1.2] at this
      exact absurd this (by decide)
    · rw [hG.2 x hx m]; exact h6
  refine ⟨⟨z0.1, z0.2.1, ?_⟩, ?_, ?_, ?_, ?_, ?_, ?_, ?_, ?_⟩
  · rw [ha 15 (by decide) (by decide)]; exact z0.2.2
  · intro x hx
    have hx : x < z 0 := hx
    obtain ⟨⟨⟨r0, r1, r2, r3, r4, r5, r7, r8, r9, r10, r11, r12, r13⟩, rb, rc, rd⟩, i0, i1, i2, i12, i13, i11, i8⟩ := hA x hx
    have A : ∀ c, c ≠ 6 → c ≠ 12 → ∀ y, a' c y = a c y := fun c c6 c12 y => by rw [ha c c6 c12]
    by_cases m : pH a pt x ∧ a 5 x ≤ ab
    · obtain ⟨m1, m2⟩ := h1 x hx m.1 m.2
      rw [hG.1 x hx m.1 m.2]
      refine ⟨⟨⟨?_, ?_, ?_, ?_, ?_, ?_, ?_, ?_, ?_, ?_, ?_, ?_, ?_⟩, ?_, ?_, ?_⟩, i0, i1, i2, i12, i13, i11, i8⟩
      · rw [A 4 (by decide) (by decide)]; exact r0
      · rw [A 5 (by decide) (by decide)]; exact r1
      · rw [A 7 (by decide) (by decide)]; exact r2
      · rw [A 15 (by decide) (by decide)]; exact r3
      · rw [m1]; rfl
      · rw [A 8 (by decide) (by decide)]; exact r5
      · rw [A 10 (by decide) (by decide)]; exact r7
      · rw [A 11 (by decide) (by decide)]; exact r8
      · rw [m2, ← e3]; rfl
      · rw [A 13 (by decide) (by decide)]; exact r10
      · rw [A 14 (by decide) (by decide)]; exact r11
      · rw [A 16 (by decide) (by decide)]; exact r12
      · rw [A 19 (by decide) (by decide)]; exact r13
      · intro h; exact absurd (show (5 : Int32) = 2 from h) (by decide)
      · rw [A 20 (by decide) (by decide)]; exact rc
      · intro t ht h; rw [A 17 (by decide) (by decide), A 18 (by decide) (by decide)]; exact rd t ht h
    · obtain ⟨m1, m2⟩ := h2 x (fun h => m h.2)
      rw [hG.2 x hx m]
      exact ⟨RI_frame (hA x hx).1 (A 4 (by decide) (by decide) x) (A 5 (by decide) (by decide) x) m1 (A 7 (by decide) (by decide) x) (A 8 (by decide) (by decide) x) (A 9 (by decide) (by decide) x) (A 10 (by decide) (by decide) x) (A 11 (by decide) (by decide) x) m2 (A 13 (by decide) (by decide) x) (A 14 (by decide) (by decide) x) (A 15 (by decide) (by decide) x) (A 16 (by decide) (by decide) x) (A 19 (by decide) (by decide) x) (A 20 (by decide) (by decide) x) (fun t _ => A 17 (by decide) (by decide) _) (fun t _ => A 18 (by decide) (by decide) _), i0, i1, i2, i12, i13, i11, i8⟩
  · intro p hp
    rw [hq 0 (by decide) (by decide), hq 1 (by decide) (by decide), hq 2 (by decide) (by decide), ha 1 (by decide) (by decide), ha 2 (by decide) (by decide), ha 3 (by decide) (by decide)]
    exact hU p hp
  · refine ⟨hR.1, hR.2.1, ?_⟩
    rw [hq 3 (by decide) (by decide), hq 4 (by decide) (by decide), ha 21 (by decide) (by decide), ha 22 (by decide) (by decide)]
    exact hR.2.2
  · refine ⟨hN.1, hN.2.1, ?_⟩
    rw [hq 5 (by decide) (by decide), hq 6 (by decide) (by decide), ha 26 (by decide) (by decide), ha 27 (by decide) (by decide)]
    exact hN.2.2
  · refine ⟨hS.1, hS.2.1, ?_⟩
    rw [hq 9 (by decide) (by decide), hq 10 (by decide) (by decide), hq 11 (by decide) (by decide), ha 23 (by decide) (by decide), ha 24 (by decide) (by decide), ha 25 (by decide) (by decide)]
    exact hS.2.2
  · refine ⟨hO.1, hO.2.1, fun s t hs ht => ?_⟩
    have ht : t < z 0 := ht
    rw [F _ (hO.1 s (by omega)) 1 (by decide) (by decide), F _ (hO.1 t ht) 1 (by decide) (by decide)]
    exact hO.2.2 s t hs ht
  · intro i j hi hj hij
    rw [F i hi 0 (by decide) (by decide), F j hj 0 (by decide) (by decide), F i hi 1 (by decide) (by decide), F j hj 1 (by decide) (by decide)]
    intro e0 e1
    exact (hQ i j hi hj hij e0 e1).imp (F6 i hi) (F6 j hj)
  · have := hV
    show VO (z 0) (z 3 + 1) (zm 2 + 1) g' q'
    rw [← e3]; exact this
theorem eq_bind (H : Rl z bo g q pp dd zm a) (pt : Int32) {nb : Nat} (hnb : nb ≤ 50) : E2 (s_X_bind z bo g q pp dd pt nb (cB g (z 0))) (s_M_bind th zm a pt nb) := by
  obtain ⟨e3, l3, q8⟩ := Rl_e3 H
  have z2 := H.1.2.1
  unfold s_X_bind s_M_bind
  by_cases c : 0 ≤ pt ∧ pt ≤ 9
  · rw [if_pos c, if_pos c]
    have G0 : GB (z 3) (z 0) (pH a pt) (a 5) 0 g g := by
      refine ⟨fun x hx _ o => ?_, fun _ _ _ => rfl⟩
      have h1 := (Rl_ord H hx).1
      rw [Int32.le_iff_toInt_le, T1] at h1
      rw [Int32.le_iff_toInt_le, T0] at o
      omega
    have B := bind_all (th := 0) H pt nb hnb (z 3) (Rl_v9 H) (va_up z 3 (z 3 + 1)) (va_up_self _ _ _) (z 0) 0 0 nb 0 0 g (va_up q 8 (upd (q 8) (z 3 + 1) (q 8 (z 3)))) (cB g (z 0)) (by omega) (by omega) (Rl_IV0 H _) G0 (fun hv => by
      have K := VO_open H.2.2.2.2.2.2.2.2 hv
      rw [← e3] at K; exact K) rfl
    rcases B with ⟨b1, b2⟩ | ⟨b1, ab', kk', g', q', b2, b3, b4, b5, b6⟩
    · rw [if_pos b1, b2]; exact E2_id H
    · rw [if_neg (by rw [b1]; decide), b2, lp_mb1, ← e3]
      by_cases hv : z 3 < 40
      · have d1 : ¬ 40 ≤ z 3 := by omega
        have d2 : ¬ nI (z 3) = 40 := by rw [show (40 : Int32) = nI 40 from rfl, nI_eq (by omega) (by decide)]; omega
        rw [if_neg d1, if_neg d2, ← H.1.1]
        obtain ⟨a', m1, m2, m3, m4⟩ := mb2_sp (th := 0) (pt := pt) (ab := ab') zm (z 0) 0 a
        rw [m1]
        have es : s_X_bindNext z bo g q pp dd pt nb (cB g (z 0)) = (nI (z 3), va_up z 3 (z 3 + 1), bo, g', q', pp, dd) := b3
        rw [es]
        refine ⟨by rw [e3], Rl_bind H b4 (b5 hv) (fun c c7 c8 => ?_) m2 (fun x hx => m3 x (Nat.zero_le _) (by omega)) (fun x hx => m4 x (fun h => hx ⟨by omega, h.2.2⟩))⟩
        show q' c = q c
        rw [b6 c c7 c8, va_up_ne _ _ c8]
      · have d1 : 40 ≤ z 3 := by omega
        have d2 : nI (z 3) = 40 := by rw [show (40 : Int32) = nI 40 from rfl, nI_eq (by omega) (by decide)]; omega
        rw [if_pos d1, if_pos d2]; exact E2_id H
  · rw [if_neg c, if_neg c]; exact E2_id H
theorem eq_bind_out (H : Rl z bo g q pp dd zm a) (pt x : Int32) : E2 (s_X_bind_out z bo g q pp dd pt x) (s_M_bind_out th zm a pt x) := by
  unfold s_X_bind_out s_M_bind_out
  by_cases c : 0 ≤ pt ∧ pt ≤ 9
  · rw [if_pos c, if_pos c]; exact E2_id H
  · rw [if_neg c, if_neg c]; exact E2_id H
/-! The reads that may throw: the reference's answers. -/
theorem eq_claimed (H : Rl z bo g q pp dd zm a) (i what : Int32) : s_M_claimed th zm a i what = if (0 ≤ i ∧ i < nI (z 1)) ∧ 0 ≤ what ∧ what ≤ 1 then ((if what = 0 then q 3 i.toNatClampNeg else q 4 i.toNatClampNeg), 0, zm, a) else (0, 1, zm, a) := by
  obtain ⟨e, hl, hq⟩ := H.2.2.2.1
  unfold s_M_claimed
  rw [← e]
  by_cases c1 : 0 ≤ i ∧ i < nI (z 1)
  · have d1 : 0 ≤ i ∧ i ≤ nI (z 1) - 1 := ⟨c1.1, (le_pr (by omega)).mpr c1.2⟩
    rw [if_pos d1]
    by_cases c2 : 0 ≤ what ∧ what ≤ 1
    · have y : (0 ≤ i ∧ i < nI (z 1)) ∧ 0 ≤ what ∧ what ≤ 1 := ⟨c1, c2⟩
      rw [if_pos c2, if_pos y]
      obtain ⟨j, hj, rfl⟩ := ix_of c1 (by omega)
      rw [nI_clamp (by omega)]
      obtain ⟨q3, q4⟩ := hq j hj
      rw [← q3, ← q4]
      by_cases c3 : what = 0
      · rw [if_pos c3, if_pos c3]
      · rw [if_neg c3, if_neg c3]
    · rw [if_neg c2, if_neg (fun h => c2 h.2)]
  · have d1 : ¬ (0 ≤ i ∧ i ≤ nI (z 1) - 1) := fun h => c1 ⟨h.1, (le_pr (by omega)).mp h.2⟩
    rw [if_neg d1, if_neg (fun h => c1 h.1)]
theorem eq_row (H : Rl z bo g q pp dd zm a) (i what : Int32) : s_M_row th zm a i what = if (0 ≤ i ∧ i < nI (z 4)) ∧ 0 ≤ what ∧ what ≤ 3 then ((if what = 0 then q 9 i.toNatClampNeg else if what = 1 then q 10 i.toNatClampNeg else if what = 2 then q 11 i.toNatClampNeg else if i.toNatClampNeg + 1 < z 4 then 1 else 0), 0, zm, a) else (0, 1, zm, a) := by
  obtain ⟨e, hl, hq⟩ := H.2.2.2.2.2.1
  unfold s_M_row
  rw [← e]
  by_cases c1 : 0 ≤ i ∧ i < nI (z 4)
  · have d1 : 0 ≤ i ∧ i ≤ nI (z 4) - 1 := ⟨c1.1, (le_pr (by omega)).mpr c1.2⟩
    rw [if_pos d1]
    by_cases c2 : 0 ≤ what ∧ what ≤ 3
    · have y : (0 ≤ i ∧ i < nI (z 4)) ∧ 0 ≤ what ∧ what ≤ 3 := ⟨c1, c2⟩
      rw [if_pos c2, if_pos y]
      obtain ⟨j, hj, ej⟩ := ix_of c1 (by omega)
      have ec : i.toNatClampNeg = j := by rw [ej, nI_clamp (by omega)]
      obtain ⟨q9, q10, q11⟩ := hq j hj
      rw [ec, ← q9, ← q10, ← q11]
      by_cases c3 : what = 0
      · rw [if_pos c3, if_pos c3]
      · rw [if_neg c3, if_neg c3]
        by_cases c4 : what = 1
        · rw [if_pos c4, if_pos c4]
        · rw [if_neg c4, if_neg c4]
          by_cases c5 : what = 2
          · rw [if_pos c5, if_pos c5]
          · rw [if_neg c5, if_neg c5]
            have iff : nI (z 4) - 1 ≤ i ↔ ¬ j + 1 < z 4 := by
              rw [ej, Int32.le_iff_toInt_le, nI_toInt (show j < 2 ^ 31 by omega), tsub (by rw [nI_toInt (by omega), T1]; omega) (by rw [nI_toInt (by omega), T1]; omega), nI_toInt (by omega), T1]
              omega
            by_cases c6 : j + 1 < z 4
            · rw [if_neg (fun h => iff.mp h c6), if_pos c6]
            · rw [if_pos (iff.mpr c6), if_neg c6]
    · rw [if_neg c2, if_neg (fun h => c2 h.2)]
  · have d1 : ¬ (0 ≤ i ∧ i ≤ nI (z 4) - 1) := fun h => c1 ⟨h.1, (le_pr (by omega)).mp h.2⟩
    rw [if_neg d1, if_neg (fun h => c1 h.1)]
end EQ
