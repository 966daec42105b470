section EQ
variable {z bo zm : Nat → Nat} {g q pp dd a : Nat → Nat → Int32} {th : Int32}
/-- the arrays that no issue has a place in -/
def GA (a a' : Nat → Nat → Int32) : Prop := a' 1 = a 1 ∧ a' 2 = a 2 ∧ a' 3 = a 3 ∧ a' 21 = a 21 ∧ a' 22 = a 22 ∧ a' 23 = a 23 ∧ a' 24 = a 24 ∧ a' 25 = a 25 ∧ a' 26 = a 26 ∧ a' 27 = a 27
/-- columns: the old ones, or with place j written -/
def CJ (a a' : Nat → Nat → Int32) (j : Nat) : Prop := ∀ k, a' k = a k ∨ (k ≠ 17 ∧ k ≠ 18 ∧ ∃ x, a' k = upd (a k) j x) ∨ ((k = 17 ∨ k = 18) ∧ ∃ t x, t < 8 ∧ a' k = upd (a k) (8 * j + t) x)
theorem CJ_rf {j : Nat} : CJ a a j := fun _ => Or.inl rfl
/-- a record, persons and days of issue j change -/
theorem Rl_updP {j : Nat} {h p d : Nat → Int32} {a' : Nat → Nat → Int32} (H : Rl z bo g q pp dd zm a) (hj : j < z 0) (hC : CJ a a' j) (hG : GA a a') (hR : RI h p d a' j) (hI : II h) (h0 : h 0 = g j 0) (h1 : h 1 = g j 1) (h5 : h 4 = 5 ↔ g j 4 = 5) (h9 : h 9 = g j 9) (h6 : g j 4 = 6 → h 4 = 6) : Rl z bo (va_up g j h) q (va_up pp j p) (va_up dd j d) zm a' := by
  obtain ⟨z0, hA, hU, hRR, hN, hS, hO, hQ, hV⟩ := H
  obtain ⟨e1, e2, e3, e21, e22, e23, e24, e25, e26, e27⟩ := hG
  have z15 : ∀ i, z 0 ≤ i → a' 15 i = 0 := fun i hi => by
    rcases hC 15 with e | ⟨_, _, x, e⟩ | ⟨e, _⟩
    · rw [e]; exact z0.2.2 i hi
    · rw [e, pk_un (by omega)]; exact z0.2.2 i hi
    · omega
  refine ⟨⟨z0.1, z0.2.1, z15⟩, RA_set hA ⟨hR, hI⟩ (fun i hi hij K => RI_other K hij hC), ?_, ⟨hRR.1, hRR.2.1, ?_⟩, ⟨hN.1, hN.2.1, ?_⟩, ⟨hS.1, hS.2.1, ?_⟩, SO_set hO h1, UQ_set hQ h0 h1 h6, VO_set hV h5 h9 h1 rfl rfl⟩
  · intro k hk; rw [e1, e2, e3]; exact hU k hk
  · rw [e21, e22]; exact hRR.2.2
  · rw [e26, e27]; exact hN.2.2
  · rw [e23, e24, e25]; exact hS.2.2
theorem Rl_upd {j : Nat} {h : Nat → Int32} {a' : Nat → Nat → Int32} (H : Rl z bo g q pp dd zm a) (hj : j < z 0) (hC : CJ a a' j) (hG : GA a a') (hR : RI h (pp j) (dd j) a' j) (hI : II h) (h0 : h 0 = g j 0) (h1 : h 1 = g j 1) (h5 : h 4 = 5 ↔ g j 4 = 5) (h9 : h 9 = g j 9) (h6 : g j 4 = 6 → h 4 = 6) : Rl z bo (va_up g j h) q pp dd zm a' := by
  have := Rl_updP H hj hC hG hR hI h0 h1 h5 h9 h6
  rwa [va_up_id, va_up_id] at this
/-- a note on both sides -/
theorem Rl_note (H : Rl z bo g q pp dd zm a) (x y : Int32) : Rl (va_up z 2 (nz (z 2) 100)) bo g (va_up (va_up q 5 (na (z 2) 100 (q 5) x)) 6 (na (z 2) 100 (q 6) y)) pp dd (va_up zm 4 (tlz zm)) (va_up (va_up a 26 (tla zm (a 26) x)) 27 (tla zm (a 27) y)) := by
  obtain ⟨z0, hA, hU, hRR, hN, hS, hO, hQ, hV⟩ := H
  refine ⟨z0, ?_, hU, hRR, ?_, hS, hO, hQ, VO_same hV (fun _ _ => Iff.rfl) (fun _ _ => rfl) (fun _ _ => rfl) rfl rfl⟩
  · intro i hi
    exact ⟨RI_frame (hA i hi).1 rfl rfl rfl rfl rfl rfl rfl rfl rfl rfl rfl rfl rfl rfl rfl (fun _ _ => rfl) (fun _ _ => rfl), (hA i hi).2⟩
  · obtain ⟨e, hl, hq⟩ := hN
    show RN (nz (z 2) 100) (tlz zm) _ _
    unfold nz tlz na tla
    rw [← e]
    by_cases c : z 2 < 100
    · have c2 : ¬ nI (z 2) = 100 := fun h => by
        rw [show (100 : Int32) = nI 100 from rfl, nI_eq (by omega) (by decide)] at h; omega
      simp only [if_pos c, if_neg c2]
      refine ⟨rfl, c, fun t ht => ?_⟩
      show upd (q 5) (z 2) x t = upd (a 26) (z 2) x t ∧ upd (q 6) (z 2) y t = upd (a 27) (z 2) y t
      by_cases et : t = z 2
      · subst et; exact ⟨by rw [pk_us, pk_us], by rw [pk_us, pk_us]⟩
      · rw [pk_un et, pk_un et, pk_un et, pk_un et]; exact hq t (by omega)
    · have c2 : nI (z 2) = 100 := by
        rw [show (100 : Int32) = nI 100 from rfl, nI_eq (by omega) (by decide)]; omega
      simp only [if_neg c, if_pos c2]
      exact ⟨rfl, hl, hq⟩
theorem cj1 {a : Nat → Nat → Int32} {j k1 : Nat} {x1 : Int32} (h1 : k1 ≠ 17 ∧ k1 ≠ 18) : CJ a (va_up a k1 (upd (a k1) j x1)) j := fun k => by
  by_cases e : k = k1
  · subst e; exact Or.inr (Or.inl ⟨h1.1, h1.2, x1, va_up_self _ _ _⟩)
  · exact Or.inl (va_up_ne _ _ e)
/-- one column more -/
theorem cj_s {a a' : Nat → Nat → Int32} {j k1 : Nat} {x1 : Int32} (H : CJ a a' j) (h1 : k1 ≠ 17 ∧ k1 ≠ 18) : CJ a (va_up a' k1 (upd (a k1) j x1)) j := fun k => by
  by_cases e : k = k1
  · subst e; exact Or.inr (Or.inl ⟨h1.1, h1.2, x1, va_up_self _ _ _⟩)
  · rw [va_up_ne _ _ e]; exact H k
theorem cj_p {a a' : Nat → Nat → Int32} {j k1 t : Nat} {x1 : Int32} (H : CJ a a' j) (h1 : k1 = 17 ∨ k1 = 18) (ht : t < 8) : CJ a (va_up a' k1 (upd (a k1) (8 * j + t) x1)) j := fun k => by
  by_cases e : k = k1
  · subst e; exact Or.inr (Or.inr ⟨h1, t, x1, ht, va_up_self _ _ _⟩)
  · rw [va_up_ne _ _ e]; exact H k
/-- it comes -/
theorem Rl_arr (H : Rl z bo g q pp dd zm a) {j : Nat} (hj : j < z 0) (h4 : g j 4 ≠ 5 ∧ g j 4 ≠ 6) {cp day : Int32} (hd : 0 ≤ day ∧ day ≤ 1000000) : Rl z bo (va_up g j (upd (upd (upd (g j) 4 3) 7 cp) 8 day)) q pp dd zm (va_up (va_up (va_up a 6 (upd (a 6) j 3)) 10 (upd (a 10) j cp)) 11 (upd (a 11) j day)) := by
  obtain ⟨⟨⟨h0, h1, h2, h3, h4', h5, h7, h8, h9, h10, h11, h12, h13⟩, hb, hc, hdd⟩, i0, i1, i2, i12, i13, i11, i8⟩ := H.2.1 j hj
  refine Rl_upd H hj (cj_s (cj_s (cj1 (by decide)) (by decide)) (by decide)) ⟨rfl, rfl, rfl, rfl, rfl, rfl, rfl, rfl, rfl, rfl⟩ ⟨⟨h0, h1, h2, h3, ?_, h5, ?_, ?_, h9, h10, h11, h12, h13⟩, ?_, hc, hdd⟩ ⟨i0, i1, i2, i12, i13, i11, ?_⟩ rfl rfl ?_ rfl (fun h => absurd h h4.2)
  · show 3 = upd (a 6) j 3 j; rw [pk_us]
  · show cp = upd (a 10) j cp j; rw [pk_us]
  · show day = upd (a 11) j day j; rw [pk_us]
  · intro h; exact absurd (show (3 : Int32) = 2 from h) (by decide)
  · show -1 ≤ day
    have := hd.1
    rw [Int32.le_iff_toInt_le, T0] at this
    rw [Int32.le_iff_toInt_le, Tm1]; omega
  · exact ⟨fun h => absurd (show (3 : Int32) = 5 from h) (by decide), fun h => absurd h h4.1⟩
theorem eq_checkIn (H : Rl z bo g q pp dd zm a) {j : Nat} (hj : j < z 0) (cp day : Int32) : E2 (s_X_checkIn z bo g q pp dd j cp day) (s_M_checkIn th zm a j cp day) := by
  have h4 := (H.2.1 j hj).1.1.2.2.2.2.1
  have h2 := (H.2.1 j hj).1.1.2.2.1
  unfold s_X_checkIn s_M_checkIn
  rw [h2]
  by_cases c1 : 1 ≤ cp ∧ cp ≤ 99
  · by_cases c2 : 0 ≤ day ∧ day ≤ 1000000
    · simp only [if_pos c1, if_pos c2]
      have A := fun q1 q2 => Rl_arr H hj (cp := cp) (day := day) ⟨q1, q2⟩ c2
      have d10 : ¬ (1 : Int32) = 0 := by decide
      have d20 : ¬ (2 : Int32) = 0 := by decide
      have d40 : ¬ (4 : Int32) = 0 := by decide
      have d21 : ¬ (2 : Int32) = 1 := by decide
      have d41 : ¬ (4 : Int32) = 1 := by decide
      have d42 : ¬ (4 : Int32) = 2 := by decide
      have d14 : ¬ (1 : Int32) = 4 := by decide
      have d24 : ¬ (2 : Int32) = 4 := by decide
      by_cases s0 : a 6 j = 0
      · have e4 := h4.trans s0
        simp only [e4, s0, if_true, true_or]
        exact ⟨rfl, Rl_note (A (by rw [e4]; decide) (by rw [e4]; decide)) 1 (nI j)⟩
      · by_cases s1 : a 6 j = 1
        · have e4 := h4.trans s1
          simp only [e4, s1, d10, d14, if_true, if_false, true_or, or_true]
          by_cases c3 : day ≤ a 7 j
          · simp only [if_pos c3]; exact ⟨rfl, A (by rw [e4]; decide) (by rw [e4]; decide)⟩
          · simp only [if_neg c3]; exact ⟨rfl, Rl_note (A (by rw [e4]; decide) (by rw [e4]; decide)) 2 (nI j)⟩
        · by_cases s2 : a 6 j = 2
          · have e4 := h4.trans s2
            simp only [e4, s2, d20, d21, d24, if_true, if_false, true_or, or_true]
            by_cases c3 : day ≤ a 7 j
            · simp only [if_pos c3]; exact ⟨rfl, A (by rw [e4]; decide) (by rw [e4]; decide)⟩
            · simp only [if_neg c3]; exact ⟨rfl, Rl_note (A (by rw [e4]; decide) (by rw [e4]; decide)) 2 (nI j)⟩
          · by_cases s4 : a 6 j = 4
            · have e4 := h4.trans s4
              simp only [e4, s4, d40, d41, d42, if_true, if_false, or_true]
              exact ⟨rfl, Rl_note (A (by rw [e4]; decide) (by rw [e4]; decide)) 2 (nI j)⟩
            · rw [h4]
              have n : ¬ (a 6 j = 0 ∨ a 6 j = 1 ∨ a 6 j = 2 ∨ a 6 j = 4) := fun h => h.elim s0 (fun h => h.elim s1 (fun h => h.elim s2 s4))
              simp only [if_neg n, if_neg s0, if_neg s1, if_neg s2, if_neg s4]
              exact E2_id H
    · simp only [if_pos c1, if_neg c2]; exact E2_id H
  · simp only [if_neg c1]; exact E2_id H
end EQ
