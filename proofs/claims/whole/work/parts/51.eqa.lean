section EQ
variable {z bo zm : Nat → Nat} {g q pp dd a : Nat → Nat → Int32} {th : Int32}
theorem E2_id {r : Int32} (H : Rl z bo g q pp dd zm a) : E2 (r, z, bo, g, q, pp, dd) (r, 0, zm, a) := ⟨rfl, H⟩
theorem eq_rule (H : Rl z bo g q pp dd zm a) {p : Nat} (hp : p < 10) (f b mo : Int32) : E2 (s_X_rule z bo g q pp dd p f b mo) (s_M_rule th zm a (nI p) f b mo) := by
  have hc : (nI p).toNatClampNeg = p := nI_clamp (by omega)
  have hin : 0 ≤ nI p ∧ nI p ≤ 9 := by
    simp only [Int32.le_iff_toInt_le, nI_toInt (show p < 2 ^ 31 by omega), T0, T9]; omega
  unfold s_X_rule s_M_rule
  rw [if_pos hin, hc]
  by_cases c1 : 1 ≤ f ∧ f ≤ 1000
  · rw [if_pos c1, if_pos c1]
    by_cases c2 : 1 ≤ b ∧ b ≤ 1000
    · rw [if_pos c2, if_pos c2]
      by_cases c3 : 0 ≤ mo ∧ mo ≤ 9
      · rw [if_pos c3, if_pos c3]
        obtain ⟨h0, hA, hU, hR, hN, hS, hO, hQ, hV⟩ := H
        refine ⟨rfl, h0, ?_, ?_, hR, hN, hS, hO, hQ, VO_same hV (fun _ _ => Iff.rfl) (fun _ _ => rfl) (fun _ _ => rfl) rfl rfl⟩
        · intro i hi
          exact ⟨RI_frame (hA i hi).1 rfl rfl rfl rfl rfl rfl rfl rfl rfl rfl rfl rfl rfl rfl rfl (fun _ _ => rfl) (fun _ _ => rfl), (hA i hi).2⟩
        · intro k hk
          obtain ⟨e0, e1, e2⟩ := hU k hk
          show upd (q 0) p f k = upd (a 1) p f k ∧ upd (q 1) p b k = upd (a 2) p b k ∧ upd (q 2) p mo k = upd (a 3) p mo k
          by_cases e : k = p
          · subst e; exact ⟨by rw [pk_us, pk_us], by rw [pk_us, pk_us], by rw [pk_us, pk_us]⟩
          · rw [pk_un e, pk_un e, pk_un e, pk_un e, pk_un e, pk_un e]; exact ⟨e0, e1, e2⟩
      · rw [if_neg c3, if_neg c3]; exact E2_id H
    · rw [if_neg c2, if_neg c2]; exact E2_id H
  · rw [if_neg c1, if_neg c1]; exact E2_id H
theorem nI_cl {x : Int32} (h : 0 ≤ x) : nI x.toNatClampNeg = x := by
  obtain ⟨k, hk, rfl⟩ := nI_of (x := x) (Int32.not_lt.mpr h)
  rw [nI_clamp hk]
theorem eq_told (H : Rl z bo g q pp dd zm a) (i what : Int32) : E2 (s_X_told z bo g q pp dd i what) (s_M_told th zm a i what) := by
  obtain ⟨e, hl, hq⟩ := H.2.2.2.2.1
  unfold s_X_told s_M_told
  rw [← e]
  by_cases c1 : 0 ≤ i ∧ i < nI (z 2)
  · have d1 : 0 ≤ i ∧ i ≤ nI (z 2) - 1 := ⟨c1.1, (le_pr (by omega)).mpr c1.2⟩
    rw [if_pos d1]
    obtain ⟨j, hj, rfl⟩ := ix_of c1 (by omega)
    obtain ⟨q5, q6⟩ := hq j hj
    by_cases c2 : 0 ≤ what ∧ what ≤ 1
    · have d2 : (0 ≤ nI j ∧ nI j < nI (z 2)) ∧ 0 ≤ what ∧ what ≤ 1 := ⟨c1, c2⟩
      rw [if_pos d2, if_pos c2, nI_clamp (by omega)]
      by_cases c3 : what = 0
      · rw [if_pos c3, if_pos c3, q5]; exact E2_id H
      · rw [if_neg c3, if_neg c3, q6]; exact E2_id H
    · have d2 : ¬ ((0 ≤ nI j ∧ nI j < nI (z 2)) ∧ 0 ≤ what ∧ what ≤ 1) := fun h => c2 h.2
      rw [if_neg d2, if_neg c2]; exact E2_id H
  · have d1 : ¬ (0 ≤ i ∧ i ≤ nI (z 2) - 1) := fun h => c1 ⟨h.1, (le_pr (by omega)).mp h.2⟩
    have d2 : ¬ ((0 ≤ i ∧ i < nI (z 2)) ∧ 0 ≤ what ∧ what ≤ 1) := fun h => c1 h.1
    rw [if_neg d1, if_neg d2]; exact E2_id H
theorem eq_about (H : Rl z bo g q pp dd zm a) {j : Nat} (hj : j < z 0) (what : Int32) : E2 (s_X_about z bo g q pp dd j what) (s_M_about th zm a j what) := by
  obtain ⟨⟨⟨h0, h1, h2, h3, h4, h5, h7, h8, h9, h10, h11, h12, h13⟩, hb, hc, hd⟩, hI⟩ := H.2.1 j hj
  unfold s_X_about s_M_about
  rw [h0, h1, h2, h4, h5, h7, h8, h9, h10, h11, h12, h13]
  by_cases c0 : what = 0
  · rw [if_pos c0, if_pos c0]; exact E2_id H
  rw [if_neg c0, if_neg c0]
  by_cases c1 : what = 1
  · rw [if_pos c1, if_pos c1]; exact E2_id H
  rw [if_neg c1, if_neg c1]
  by_cases c2 : what = 2
  · rw [if_pos c2, if_pos c2]; exact E2_id H
  rw [if_neg c2, if_neg c2]
  by_cases c3 : what = 3
  · rw [if_pos c3, if_pos c3]; exact E2_id H
  rw [if_neg c3, if_neg c3]
  by_cases c4 : what = 4
  · rw [if_pos c4, if_pos c4]; exact E2_id H
  rw [if_neg c4, if_neg c4]
  by_cases c5 : what = 5
  · rw [if_pos c5, if_pos c5]; exact E2_id H
  rw [if_neg c5, if_neg c5]
  by_cases c6 : what = 6
  · rw [if_pos c6, if_pos c6]; exact E2_id H
  rw [if_neg c6, if_neg c6]
  by_cases c7 : what = 7
  · rw [if_pos c7, if_pos c7]
    by_cases o : 0 ≤ a 19 j ∧ a 19 j < a 16 j
    · rw [if_pos o, if_pos o]
      have h8' : a 16 j ≤ 8 := by rw [← h12]; exact hI.2.2.2.1.2
      have ht := px_lt (n := 8) o.1 o.2 h8' (by decide)
      have e := (hd (a 19 j).toNatClampNeg ht (by rw [h12, nI_cl o.1]; exact o.2)).1
      rw [e]; exact E2_id H
    · rw [if_neg o, if_neg o]; exact E2_id H
  rw [if_neg c7, if_neg c7]
  by_cases c8 : what = 8
  · rw [if_pos c8, if_pos c8]; exact E2_id H
  rw [if_neg c8, if_neg c8]
  by_cases c9 : what = 9
  · rw [if_pos c9, if_pos c9]; exact E2_id H
  rw [if_neg c9, if_neg c9]
  by_cases c10 : what = 10
  · rw [if_pos c10, if_pos c10]; exact E2_id H
  rw [if_neg c10, if_neg c10]; exact E2_id H
theorem tadd {x y : Int32} (h1 : -2147483648 ≤ x.toInt + y.toInt) (h2 : x.toInt + y.toInt < 2147483648) : (x + y).toInt = x.toInt + y.toInt := by
  rw [Int32.toInt_add]; exact Int.bmod_eq_of_le (by omega) (by omega)
theorem tsub {x y : Int32} (h1 : -2147483648 ≤ x.toInt - y.toInt) (h2 : x.toInt - y.toInt < 2147483648) : (x - y).toInt = x.toInt - y.toInt := by
  rw [Int32.toInt_sub]; exact Int.bmod_eq_of_le (by omega) (by omega)
theorem eq_cost (H : Rl z bo g q pp dd zm a) {j : Nat} (hj : j < z 0) (more : Int32) : E2 (s_X_cost z bo g q pp dd j more) (s_M_cost th zm a j more) := by
  obtain ⟨⟨⟨h0, h1, h2, h3, h4, h5, h7, h8, h9, h10, h11, h12, h13⟩, hb, hc, hd⟩, hI⟩ := H.2.1 j hj
  obtain ⟨i0, i1, i2, i12, i13, i11, i8⟩ := hI
  unfold s_X_cost s_M_cost
  by_cases c1 : 0 ≤ more ∧ more ≤ 10000000
  · rw [if_pos c1, if_pos c1]
    have k1 := c1
    have k2 := i11
    simp only [Int32.le_iff_toInt_le, T0, T10000000, T1000000000] at k1 k2
    have e1 : (1000000000 - more : Int32).toInt = 1000000000 - more.toInt := by rw [tsub (by rw [T1000000000]; omega) (by rw [T1000000000]; omega), T1000000000]
    have e2 : (g j 11 + more).toInt = (g j 11).toInt + more.toInt := tadd (by omega) (by omega)
    have iff : (g j 11 ≤ 1000000000 - more) ↔ (a 14 j + more ≤ 1000000000) := by
      rw [← h11, Int32.le_iff_toInt_le, Int32.le_iff_toInt_le, e1, e2, T1000000000]; omega
    by_cases c2 : g j 11 ≤ 1000000000 - more
    · rw [if_pos c2, if_pos (iff.mp c2)]
      have c3 := iff.mp c2
      rw [← h11, Int32.le_iff_toInt_le, e2, T1000000000] at c3
      obtain ⟨z0, hA, hU, hR, hN, hS, hO, hQ, hV⟩ := H
      refine ⟨?_, z0, ?_, hU, hR, hN, hS, SO_set hO rfl, UQ_set hQ rfl rfl id, VO_set hV Iff.rfl rfl rfl rfl rfl⟩
      · show g j 11 + more = upd (a 14) j (a 14 j + more) j
        rw [pk_us, h11]
      · refine RA_setg hA ⟨⟨⟨h0, h1, h2, h3, h4, h5, h7, h8, h9, h10, ?_, h12, h13⟩, hb, hc, hd⟩, i0, i1, i2, i12, i13, ?_, i8⟩ (fun i hi hij K => RI_other K hij (fun k => ?_))
        · show g j 11 + more = upd (a 14) j (a 14 j + more) j
          rw [pk_us, h11]
        · show 0 ≤ g j 11 + more ∧ g j 11 + more ≤ 1000000000
          rw [Int32.le_iff_toInt_le, Int32.le_iff_toInt_le, e2, T0, T1000000000]; omega
        · by_cases e : k = 14
          · subst e; exact Or.inr (Or.inl ⟨by decide, by decide, _, rfl⟩)
          · exact Or.inl (va_up_ne _ _ e)
    · rw [if_neg c2, if_neg (fun h => c2 (iff.mpr h))]; exact E2_id H
  · rw [if_neg c1, if_neg c1]; exact E2_id H
end EQ
