section EQ
variable {z bo zm : Nat → Nat} {g q pp dd a : Nat → Nat → Int32} {th : Int32}
theorem eq_list (H : Rl z bo g q pp dd zm a) {j : Nat} (hj : j < z 0) (who days : Int32) : E2 (s_X_list z bo g q pp dd j who days) (s_M_list th zm a j who days) := by
  obtain ⟨⟨⟨h0, h1, h2, h3, h4, h5, h7, h8, h9, h10, h11, h12, h13⟩, hb, hc, hd⟩, i0, i1, i2, i12, i13, i11, i8⟩ := H.2.1 j hj
  unfold s_X_list s_M_list
  rw [← h4, ← h13, ← h12]
  by_cases c1 : 0 ≤ who ∧ who ≤ 999
  · by_cases c2 : 1 ≤ days ∧ days ≤ 100
    · by_cases c3 : g j 4 = 3
      · simp only [if_pos c1, if_pos c2, if_pos c3]
        by_cases c4 : 0 ≤ g j 13
        · have c4' : ¬ g j 13 < 0 := Int32.not_lt.mpr c4
          simp only [if_pos c4, if_neg c4']; exact E2_id H
        · have c4' : g j 13 < 0 := Int32.not_le.mp c4
          simp only [if_neg c4, if_pos c4']
          by_cases c5 : 8 ≤ g j 12
          · have c5' : g j 12 = 8 := by
              have k1 := i12.2; have k2 := c5
              rw [Int32.le_iff_toInt_le, T8] at k1 k2
              rw [← Int32.toInt_inj, T8]; omega
            simp only [if_pos c5, if_pos c5']; exact E2_id H
          · have c5' : ¬ g j 12 = 8 := fun e => c5 (by rw [e]; decide)
            simp only [if_neg c5, if_neg c5']
            obtain ⟨k, hk, ek⟩ := nI_of (x := g j 12) (Int32.not_lt.mpr i12.1)
            have k8 : k < 8 := by
              have k2 := c5
              rw [ek, Int32.le_iff_toInt_le, nI_toInt hk, T8] at k2; omega
            have ecl : (g j 12).toNatClampNeg = k := by rw [ek, nI_clamp hk]
            have es : g j 12 + 1 = nI (k + 1) := by rw [ek, nI_1]
            rw [ecl]
            refine ⟨?_, Rl_updP H hj (cj_s (cj_p (cj_p CJ_rf (Or.inl rfl) k8) (Or.inr rfl) k8) (by decide)) ⟨rfl, rfl, rfl, rfl, rfl, rfl, rfl, rfl, rfl, rfl⟩ ⟨⟨h0, h1, h2, h3, h4, h5, h7, h8, h9, h10, h11, ?_, h13⟩, hb, hc, ?_⟩ ⟨i0, i1, i2, ?_, ?_, i11, i8⟩ rfl rfl Iff.rfl rfl id⟩
            · show g j 12 + 1 = upd (a 16) j (g j 12 + 1) j
              rw [pk_us]
            · show g j 12 + 1 = upd (a 16) j (g j 12 + 1) j
              rw [pk_us]
            · intro t ht hlt
              have hlt' : nI t < g j 12 + 1 := hlt
              rw [es, nI_ltI (by omega) (by omega)] at hlt'
              show upd (pp j) k who t = upd (a 17) (8 * j + k) who (8 * j + t) ∧ upd (dd j) k days t = upd (a 18) (8 * j + k) days (8 * j + t)
              by_cases et : t = k
              · subst et; exact ⟨by rw [pk_us, pk_us], by rw [pk_us, pk_us]⟩
              · rw [pk_un et, pk_un et, pk_un (by omega), pk_un (by omega)]
                exact hd t ht (by rw [ek, nI_ltI (by omega) hk]; omega)
            · show 0 ≤ g j 12 + 1 ∧ g j 12 + 1 ≤ 8
              rw [es, Int32.le_iff_toInt_le, Int32.le_iff_toInt_le, nI_toInt (by omega), T0, T8]; omega
            · show -1 ≤ g j 13 ∧ g j 13 ≤ g j 12 + 1
              refine ⟨i13.1, ?_⟩
              have k2 := c4'
              rw [Int32.lt_iff_toInt_lt, T0] at k2
              rw [es, Int32.le_iff_toInt_le, nI_toInt (by omega)]; omega
      · simp only [if_pos c1, if_pos c2, if_neg c3]; exact E2_id H
    · simp only [if_pos c1, if_neg c2]; exact E2_id H
  · simp only [if_neg c1]; exact E2_id H
/-- who has it goes one on -/
theorem Rl_pass (H : Rl z bo g q pp dd zm a) {j : Nat} (hj : j < z 0) {pl day : Int32} (hp : g j 13 = pl) (hlt : pl < g j 12) : Rl z bo (va_up g j (upd (upd (g j) 13 (pl + 1)) 14 day)) q pp dd zm (va_up (va_up a 19 (upd (a 19) j (pl + 1))) 20 (upd (a 20) j day)) := by
  obtain ⟨⟨⟨h0, h1, h2, h3, h4, h5, h7, h8, h9, h10, h11, h12, h13⟩, hb, hc, hd⟩, i0, i1, i2, i12, i13, i11, i8⟩ := H.2.1 j hj
  refine Rl_upd H hj (cj_s (cj1 (by decide)) (by decide)) ⟨rfl, rfl, rfl, rfl, rfl, rfl, rfl, rfl, rfl, rfl⟩ ⟨⟨h0, h1, h2, h3, h4, h5, h7, h8, h9, h10, h11, h12, ?_⟩, hb, ?_, hd⟩ ⟨i0, i1, i2, i12, ?_, i11, i8⟩ rfl rfl Iff.rfl rfl id
  · show pl + 1 = upd (a 19) j (pl + 1) j
    rw [pk_us]
  · intro _
    show day = upd (a 20) j day j
    rw [pk_us]
  · show -1 ≤ pl + 1 ∧ pl + 1 ≤ g j 12
    have k1 := i13.1; have k2 := i12.2; have k3 := hlt
    rw [hp] at k1
    rw [Int32.le_iff_toInt_le, Tm1] at k1
    rw [Int32.le_iff_toInt_le, T8] at k2
    rw [Int32.lt_iff_toInt_lt] at k3
    have e : (pl + 1).toInt = pl.toInt + 1 := by rw [tadd (by rw [T1]; omega) (by rw [T1]; omega), T1]
    rw [Int32.le_iff_toInt_le, Int32.le_iff_toInt_le, e, Tm1]; omega
theorem eq_route (H : Rl z bo g q pp dd zm a) {j : Nat} (hj : j < z 0) (day : Int32) : E2 (s_X_route z bo g q pp dd j day) (s_M_route th zm a j day) := by
  obtain ⟨⟨⟨h0, h1, h2, h3, h4, h5, h7, h8, h9, h10, h11, h12, h13⟩, hb, hc, hd⟩, i0, i1, i2, i12, i13, i11, i8⟩ := H.2.1 j hj
  unfold s_X_route s_M_route
  rw [← h4, ← h13, ← h12]
  by_cases c1 : 0 ≤ day ∧ day ≤ 1000000
  · by_cases c3 : g j 4 = 3
    · simp only [if_pos c1, if_pos c3]
      by_cases c4 : 0 ≤ g j 13
      · simp only [if_pos c4]; exact E2_id H
      · simp only [if_neg c4]
        by_cases c5 : g j 12 = 0
        · simp only [if_pos c5]; exact E2_id H
        · simp only [if_neg c5]
          have e13 : g j 13 = -1 := by
            have k1 := i13.1; have k2 := c4
            rw [Int32.le_iff_toInt_le, Tm1] at k1
            rw [Int32.le_iff_toInt_le, T0] at k2
            rw [← Int32.toInt_inj, Tm1]; omega
          have k12 : (0 : Int32) < g j 12 := by
            have k1 := i12.1; have k2 := c5
            rw [Int32.le_iff_toInt_le, T0] at k1
            rw [← Int32.toInt_inj, T0] at k2
            rw [Int32.lt_iff_toInt_lt, T0]; omega
          have hlt : (-1 : Int32) < g j 12 := by
            have k1 := k12
            rw [Int32.lt_iff_toInt_lt, T0] at k1
            rw [Int32.lt_iff_toInt_lt, Tm1]; omega
          have P := Rl_pass H hj (day := day) e13 hlt
          have em : (-1 : Int32) + 1 = 0 := by decide
          rw [e13]
          rw [em] at P ⊢
          have o : (0 : Int32) ≤ 0 ∧ 0 < g j 12 := ⟨by decide, k12⟩
          refine ⟨?_, P⟩
          show (if (0 : Int32) ≤ 0 ∧ 0 < g j 12 then pp j (0 : Int32).toNatClampNeg else -1) = a 17 (8 * j)
          rw [if_pos o]
          exact (hd 0 (by decide) k12).1
    · simp only [if_pos c1, if_neg c3]; exact E2_id H
  · simp only [if_neg c1]; exact E2_id H
theorem eq_returned (H : Rl z bo g q pp dd zm a) {j : Nat} (hj : j < z 0) (day : Int32) : E2 (s_X_returned z bo g q pp dd j day) (s_M_returned th zm a j day) := by
  obtain ⟨⟨⟨h0, h1, h2, h3, h4, h5, h7, h8, h9, h10, h11, h12, h13⟩, hb, hc, hd⟩, i0, i1, i2, i12, i13, i11, i8⟩ := H.2.1 j hj
  unfold s_X_returned s_M_returned
  simp only [pk_us]
  rw [← h13, ← h12]
  by_cases c1 : 0 ≤ day ∧ day ≤ 1000000
  · simp only [if_pos c1]
    by_cases o : 0 ≤ g j 13 ∧ g j 13 < g j 12
    · simp only [if_pos o]
      rw [← hc o.1]
      by_cases c2 : g j 14 ≤ day
      · simp only [if_pos c2]
        have ht := px_lt (n := 8) o.1 o.2 i12.2 (by decide)
        have e18 := (hd (g j 13).toNatClampNeg ht (by rw [nI_cl o.1]; exact o.2)).2
        rw [← e18]
        have o8 : g j 13 < 8 := Int32.lt_of_lt_of_le o.2 i12.2
        have ans : ∀ (c : 0 ≤ g j 13 + 1 ∧ g j 13 + 1 < g j 12), pp j (g j 13 + 1).toNatClampNeg = a 17 (8 * j + (g j 13).toNatClampNeg + 1) := by
          intro c
          have ht2 := px_lt (n := 8) c.1 c.2 i12.2 (by decide)
          have e17 := (hd (g j 13 + 1).toNatClampNeg ht2 (by rw [nI_cl c.1]; exact c.2)).1
          rw [e17, px_s o.1 o8]; rfl
        by_cases c3 : dd j (g j 13).toNatClampNeg < day - g j 14
        · have c3' : ¬ day - g j 14 ≤ dd j (g j 13).toNatClampNeg := Int32.not_le.mpr c3
          have c3o : (0 ≤ g j 13 ∧ g j 13 < g j 12) ∧ dd j (g j 13).toNatClampNeg < day - g j 14 := ⟨o, c3⟩
          simp only [if_pos c3o, if_neg c3']
          have P := Rl_pass (Rl_note H 4 (nI j)) hj (day := day) (rfl : g j 13 = g j 13) o.2
          by_cases c : 0 ≤ g j 13 + 1 ∧ g j 13 + 1 < g j 12
          · simp only [if_pos c]; exact ⟨ans c, P⟩
          · simp only [if_neg c]; exact ⟨rfl, P⟩
        · have c3' : day - g j 14 ≤ dd j (g j 13).toNatClampNeg := Int32.not_lt.mp c3
          have c3o : ¬ ((0 ≤ g j 13 ∧ g j 13 < g j 12) ∧ dd j (g j 13).toNatClampNeg < day - g j 14) := fun h => c3 h.2
          simp only [if_neg c3o, if_pos c3']
          have P := Rl_pass H hj (day := day) (rfl : g j 13 = g j 13) o.2
          by_cases c : 0 ≤ g j 13 + 1 ∧ g j 13 + 1 < g j 12
          · simp only [if_pos c]; exact ⟨ans c, P⟩
          · simp only [if_neg c]; exact ⟨rfl, P⟩
      · simp only [if_neg c2]; exact E2_id H
    · simp only [if_neg o]; exact E2_id H
  · simp only [if_neg c1]; exact E2_id H
theorem eq_late1 (H : Rl z bo g q pp dd zm a) (pt : Int32) : ∀ (k i : Nat) (sum : Int32), i + k = z 0 → E2 (lp_xlate z bo g q pp dd pt k i sum) (lp_late 0 zm a pt k i sum)
  | 0, i, sum, _ => E2_id H
  | k + 1, i, sum, hk => by
    have ih := fun s => eq_late1 H pt k (i + 1) s (by omega)
    obtain ⟨⟨⟨h0, h1, h2, h3, h4, h5, h7, h8, h9, h10, h11, h12, h13⟩, hb, hc, hd⟩, i0, i1, i2, i12, i13, i11, i8⟩ := H.2.1 i (by omega)
    rw [lp_xlate, lp_late, ← h0, ← h2, ← h3, ← h8]
    by_cases c0 : g i 0 = pt
    · simp only [if_pos c0]
      by_cases c3 : g i 3 = 0
      · simp only [if_pos c3]
        have k2 := i2.1
        rw [Int32.le_iff_toInt_le, Tm1] at k2
        by_cases c2 : g i 2 < 0
        · have n : ¬ ((¬ g i 8 = -1 ∧ ¬ g i 2 = -1 ∧ g i 3 = 0) ∧ g i 2 < g i 8) := by
            intro h
            have k3 := c2
            have k4 := h.1.2.1
            rw [Int32.lt_iff_toInt_lt, T0] at k3
            rw [← Int32.toInt_inj, Tm1] at k4
            omega
          simp only [if_pos c2, if_neg n, Int32.add_zero]; exact ih _
        · simp only [if_neg c2]
          by_cases c8 : g i 8 ≤ g i 2
          · have n : ¬ ((¬ g i 8 = -1 ∧ ¬ g i 2 = -1 ∧ g i 3 = 0) ∧ g i 2 < g i 8) := fun h => absurd h.2 (Int32.not_lt.mpr c8)
            simp only [if_pos c8, if_neg n, Int32.add_zero]; exact ih _
          · have y : (¬ g i 8 = -1 ∧ ¬ g i 2 = -1 ∧ g i 3 = 0) ∧ g i 2 < g i 8 := by
              have k3 := c2; have k4 := c8
              rw [Int32.lt_iff_toInt_lt, T0] at k3
              rw [Int32.le_iff_toInt_le] at k4
              refine ⟨⟨?_, ?_, c3⟩, Int32.not_le.mp c8⟩
              · rw [← Int32.toInt_inj, Tm1]; omega
              · rw [← Int32.toInt_inj, Tm1]; omega
            simp only [if_neg c8, if_pos y]; exact ih _
      · have n : ¬ ((¬ g i 8 = -1 ∧ ¬ g i 2 = -1 ∧ g i 3 = 0) ∧ g i 2 < g i 8) := fun h => c3 h.1.2.2
        simp only [if_neg c3, if_neg n, Int32.add_zero]; exact ih _
    · simp only [if_neg c0]; exact ih _
theorem eq_lateness (H : Rl z bo g q pp dd zm a) (pt : Int32) : E2 (s_X_lateness z bo g q pp dd pt) (s_M_lateness th zm a pt) := by
  unfold s_X_lateness s_M_lateness
  by_cases c : 0 ≤ pt ∧ pt ≤ 9
  · rw [if_pos c, if_pos c, ← H.1.1]; exact eq_late1 H pt (z 0) 0 0 (by omega)
  · rw [if_neg c, if_neg c]; exact E2_id H
end EQ
