theorem upd_uu {f : Nat → Int32} {k : Nat} {x y : Int32} : upd (upd f k x) k y = upd f k y := by
  funext j
  by_cases h : j = k
  · subst h; rw [pk_us, pk_us]
  · rw [pk_un h, pk_un h, pk_un h]
theorem upd_cm {f : Nat → Int32} {i j : Nat} {x y : Int32} (h : i ≠ j) : upd (upd f i x) j y = upd (upd f j y) i x := by
  funext k
  by_cases h1 : k = i
  · subst h1; rw [pk_un h, pk_us, pk_us]
  · by_cases h2 : k = j
    · subst h2; rw [pk_us, pk_un h1, pk_us]
    · rw [pk_un h2, pk_un h1, pk_un h1, pk_un h2]
theorem va_up_cm {α : Type} {f : Nat → α} {i j : Nat} {x y : α} (h : i ≠ j) : va_up (va_up f i x) j y = va_up (va_up f j y) i x := by
  funext k
  by_cases h1 : k = i
  · subst h1; rw [va_up_ne _ _ h, va_up_self, va_up_self]
  · by_cases h2 : k = j
    · subst h2; rw [va_up_self, va_up_ne _ _ h1, va_up_self]
    · rw [va_up_ne _ _ h2, va_up_ne _ _ h1, va_up_ne _ _ h1, va_up_ne _ _ h2]
section EQ
variable {z bo zm : Nat → Nat} {g q pp dd a : Nat → Nat → Int32} {th : Int32}
theorem Rl_rep (H : Rl z bo g q pp dd zm a) {j : Nat} (hj : j < z 0) (hn : z 0 < 200) (h4 : g j 4 = 3 ∨ g j 4 = 4) {day : Int32} (hd : 0 ≤ day ∧ day ≤ 1000000) :
    Rl (va_up z 0 (z 0 + 1)) (insB bo (insP bo (va_up g (z 0) (upd (upd (upd (recI ((g j) 0) ((g j) 1) ((g j) 2) 1) 4 3) 7 1) 8 day)) ((va_up g (z 0) (upd (upd (upd (recI ((g j) 0) ((g j) 1) ((g j) 2) 1) 4 3) 7 1) 8 day)) (z 0) 1) (z 0)) (z 0)) (va_up (va_up g (z 0) (upd (upd (upd (recI ((g j) 0) ((g j) 1) ((g j) 2) 1) 4 3) 7 1) 8 day)) j (upd (upd ((va_up g (z 0) (upd (upd (upd (recI ((g j) 0) ((g j) 1) ((g j) 2) 1) 4 3) 7 1) 8 day)) j) 4 6) 10 (nI (z 0)))) q (va_up pp (z 0) (fun _ => 0)) (va_up dd (z 0) (fun _ => 0)) (va_up zm 0 (zm 0 + 1))
      (va_up (va_up (va_up (va_up (va_up (va_up (va_up (va_up (va_up (va_up (va_up (va_up (va_up (va_up (va_up (va_up (va_up (va_up a 4 (upd (a 4) (z 0) ((a 4) (j)))) 5 (upd (a 5) (z 0) ((a 5) (j)))) 7 (upd (a 7) (z 0) ((a 7) (j)))) 6 (upd (a 6) (z 0) (if 0 ≤ ((a 7) (j)) then 1 else 0))) 8 (upd (a 8) (z 0) (0))) 10 (upd (a 10) (z 0) (0))) 11 (upd (a 11) (z 0) (-1))) 12 (upd (a 12) (z 0) (-1))) 13 (upd (a 13) (z 0) (-1))) 14 (upd (a 14) (z 0) (0))) 16 (upd (a 16) (z 0) (0))) 19 (upd (a 19) (z 0) (-1))) 6 (upd (upd (a 6) (z 0) (if 0 ≤ ((a 7) (j)) then 1 else 0)) (z 0) (3))) 10 (upd (upd (a 10) (z 0) (0)) (z 0) (1))) 11 (upd (upd (a 11) (z 0) (-1)) (z 0) (day))) 15 (upd (a 15) (z 0) (1))) 6 (upd (upd (upd (a 6) (z 0) (if 0 ≤ ((a 7) (j)) then 1 else 0)) (z 0) (3)) (j) (6))) 13 (upd (upd (a 13) (z 0) (-1)) (j) (nI (z 0)))) := by
  obtain ⟨⟨⟨h0, h1, h2, h3, h4', h5, h7, h8, h9, h10, h11, h12, h13⟩, hb, hc, hdd⟩, i0, i1, i2, i12, i13, i11, i8⟩ := H.2.1 j hj
  have n5 : g j 4 ≠ 5 := by rcases h4 with e | e <;> rw [e] <;> decide
  have n6 : g j 4 ≠ 6 := by rcases h4 with e | e <;> rw [e] <;> decide
  have hne : z 0 ≠ j := by omega
  have ez := H.1.1
  have hQ := H.2.2.2.2.2.2.2.1
  have H1 : Rl z bo (va_up g j (upd (upd (g j) 4 6) 10 (nI (z 0)))) q pp dd zm (va_up (va_up a 6 (upd (a 6) j 6)) 13 (upd (a 13) j (nI (z 0)))) := by
    refine Rl_upd H hj (cj_s (cj1 (by decide)) (by decide)) ⟨rfl, rfl, rfl, rfl, rfl, rfl, rfl, rfl, rfl, rfl⟩ ⟨⟨h0, h1, h2, h3, ?_, h5, h7, h8, h9, ?_, h11, h12, h13⟩, ?_, hc, hdd⟩ ⟨i0, i1, i2, i12, i13, i11, i8⟩ rfl rfl ⟨fun h => absurd (show (6 : Int32) = 5 from h) (by decide), fun h => absurd h n5⟩ rfl (fun _ => rfl)
    · show 6 = upd (a 6) j 6 j; rw [pk_us]
    · show nI (z 0) = upd (a 13) j (nI (z 0)) j; rw [pk_us]
    · intro h; exact absurd (show (6 : Int32) = 2 from h) (by decide)
  have eg : (va_up g (z 0) (upd (upd (upd (recI ((g j) 0) ((g j) 1) ((g j) 2) 1) 4 3) 7 1) 8 day)) j = g j := va_up_ne _ _ (fun e => hne e.symm)
  rw [eg, va_up_self, va_up_cm (f := g) hne]
  have eP : insP bo (va_up g (z 0) (upd (upd (upd (recI ((g j) 0) ((g j) 1) ((g j) 2) 1) 4 3) 7 1) 8 day)) ((upd (upd (upd (recI ((g j) 0) ((g j) 1) ((g j) 2) 1) 4 3) 7 1) 8 day) 1) (z 0) = insP bo (va_up (va_up g j (upd (upd (g j) 4 6) 10 (nI (z 0)))) (z 0) (upd (upd (upd (recI ((g j) 0) ((g j) 1) ((g j) 2) 1) 4 3) 7 1) 8 day)) ((upd (upd (upd (recI ((g j) 0) ((g j) 1) ((g j) 2) 1) 4 3) 7 1) 8 day) 1) (z 0) := by
    refine (insP_cg (z 0) (fun t ht => ?_)).symm
    have hb : bo t ≠ z 0 := by have := H.2.2.2.2.2.2.1.1 t ht; omega
    rw [va_up_ne _ _ hb, va_up_ne _ _ hb]
    exact va_up_f (h := upd (upd (g j) 4 6) 10 (nI (z 0))) (show upd (upd (g j) 4 6) 10 (nI (z 0)) 1 = g j 1 from rfl) _
  rw [eP]
  have eC : ∀ k, (va_up (va_up (va_up (va_up (va_up (va_up (va_up (va_up (va_up (va_up (va_up (va_up (va_up (va_up (va_up (va_up (va_up (va_up a 4 (upd (a 4) (z 0) ((a 4) (j)))) 5 (upd (a 5) (z 0) ((a 5) (j)))) 7 (upd (a 7) (z 0) ((a 7) (j)))) 6 (upd (a 6) (z 0) (if 0 ≤ ((a 7) (j)) then 1 else 0))) 8 (upd (a 8) (z 0) (0))) 10 (upd (a 10) (z 0) (0))) 11 (upd (a 11) (z 0) (-1))) 12 (upd (a 12) (z 0) (-1))) 13 (upd (a 13) (z 0) (-1))) 14 (upd (a 14) (z 0) (0))) 16 (upd (a 16) (z 0) (0))) 19 (upd (a 19) (z 0) (-1))) 6 (upd (upd (a 6) (z 0) (if 0 ≤ ((a 7) (j)) then 1 else 0)) (z 0) (3))) 10 (upd (upd (a 10) (z 0) (0)) (z 0) (1))) 11 (upd (upd (a 11) (z 0) (-1)) (z 0) (day))) 15 (upd (a 15) (z 0) (1))) 6 (upd (upd (upd (a 6) (z 0) (if 0 ≤ ((a 7) (j)) then 1 else 0)) (z 0) (3)) (j) (6))) 13 (upd (upd (a 13) (z 0) (-1)) (j) (nI (z 0)))) k
      = (va_up (va_up (va_up (va_up (va_up (va_up (va_up (va_up (va_up (va_up (va_up (va_up (va_up (va_up (va_up a 6 (upd (a 6) j 6)) 13 (upd (a 13) j (nI (z 0)))) 4 (upd (a 4) (z 0) (a 4 j))) 5 (upd (a 5) (z 0) (a 5 j))) 7 (upd (a 7) (z 0) (a 7 j))) 6 (upd (upd (a 6) j 6) (z 0) 3)) 8 (upd (a 8) (z 0) 0)) 10 (upd (a 10) (z 0) 1)) 11 (upd (a 11) (z 0) day)) 12 (upd (a 12) (z 0) (-1))) 13 (upd (upd (a 13) j (nI (z 0))) (z 0) (-1))) 14 (upd (a 14) (z 0) 0)) 15 (upd (a 15) (z 0) 1)) 16 (upd (a 16) (z 0) 0)) 19 (upd (a 19) (z 0) (-1))) k := by
    intro k
    by_cases k4 : k = 4
    · subst k4; rfl
    by_cases k5 : k = 5
    · subst k5; rfl
    by_cases k6 : k = 6
    · subst k6
      show upd (upd (upd (a 6) (z 0) (if 0 ≤ ((a 7) (j)) then 1 else 0)) (z 0) (3)) (j) (6) = upd (upd (a 6) j 6) (z 0) 3
      rw [upd_uu, upd_cm hne]
    by_cases k7 : k = 7
    · subst k7; rfl
    by_cases k8 : k = 8
    · subst k8; rfl
    by_cases k10 : k = 10
    · subst k10
      show upd (upd (a 10) (z 0) (0)) (z 0) (1) = upd (a 10) (z 0) 1
      rw [upd_uu]
    by_cases k11 : k = 11
    · subst k11
      show upd (upd (a 11) (z 0) (-1)) (z 0) (day) = upd (a 11) (z 0) day
      rw [upd_uu]
    by_cases k12 : k = 12
    · subst k12; rfl
    by_cases k13 : k = 13
    · subst k13
      show upd (upd (a 13) (z 0) (-1)) (j) (nI (z 0)) = upd (upd (a 13) j (nI (z 0))) (z 0) (-1)
      rw [upd_cm hne]
    by_cases k14 : k = 14
    · subst k14; rfl
    by_cases k15 : k = 15
    · subst k15; rfl
    by_cases k16 : k = 16
    · subst k16; rfl
    by_cases k19 : k = 19
    · subst k19; rfl
    rw [va_up_ne _ _ k13, va_up_ne _ _ k6, va_up_ne _ _ k15, va_up_ne _ _ k11, va_up_ne _ _ k10, va_up_ne _ _ k6, va_up_ne _ _ k19, va_up_ne _ _ k16, va_up_ne _ _ k14, va_up_ne _ _ k13, va_up_ne _ _ k12, va_up_ne _ _ k11, va_up_ne _ _ k10, va_up_ne _ _ k8, va_up_ne _ _ k6, va_up_ne _ _ k7, va_up_ne _ _ k5, va_up_ne _ _ k4, va_up_ne _ _ k19, va_up_ne _ _ k16, va_up_ne _ _ k15, va_up_ne _ _ k14, va_up_ne _ _ k13, va_up_ne _ _ k12, va_up_ne _ _ k11, va_up_ne _ _ k10, va_up_ne _ _ k8, va_up_ne _ _ k6, va_up_ne _ _ k7, va_up_ne _ _ k5, va_up_ne _ _ k4, va_up_ne _ _ k13, va_up_ne _ _ k6]
  rw [funext eC]
  refine Rl_new H1 hn (cj_s (a := va_up (va_up a 6 (upd (a 6) j 6)) 13 (upd (a 13) j (nI (z 0)))) (cj_s (a := va_up (va_up a 6 (upd (a 6) j 6)) 13 (upd (a 13) j (nI (z 0)))) (cj_s (a := va_up (va_up a 6 (upd (a 6) j 6)) 13 (upd (a 13) j (nI (z 0)))) (cj_s (a := va_up (va_up a 6 (upd (a 6) j 6)) 13 (upd (a 13) j (nI (z 0)))) (cj_s (a := va_up (va_up a 6 (upd (a 6) j 6)) 13 (upd (a 13) j (nI (z 0)))) (cj_s (a := va_up (va_up a 6 (upd (a 6) j 6)) 13 (upd (a 13) j (nI (z 0)))) (cj_s (a := va_up (va_up a 6 (upd (a 6) j 6)) 13 (upd (a 13) j (nI (z 0)))) (cj_s (a := va_up (va_up a 6 (upd (a 6) j 6)) 13 (upd (a 13) j (nI (z 0)))) (cj_s (a := va_up (va_up a 6 (upd (a 6) j 6)) 13 (upd (a 13) j (nI (z 0)))) (cj_s (a := va_up (va_up a 6 (upd (a 6) j 6)) 13 (upd (a 13) j (nI (z 0)))) (cj_s (a := va_up (va_up a 6 (upd (a 6) j 6)) 13 (upd (a 13) j (nI (z 0)))) (cj_s (a := va_up (va_up a 6 (upd (a 6) j 6)) 13 (upd (a 13) j (nI (z 0)))) (cj1 (a := va_up (va_up a 6 (upd (a 6) j 6)) 13 (upd (a 13) j (nI (z 0)))) (by decide)) (by decide)) (by decide)) (by decide)) (by decide)) (by decide)) (by decide)) (by decide)) (by decide)) (by decide)) (by decide)) (by decide)) (by decide)) ⟨rfl, rfl, rfl, rfl, rfl, rfl, rfl, rfl, rfl, rfl⟩ ⟨⟨?_, ?_, ?_, ?_, ?_, ?_, ?_, ?_, ?_, ?_, ?_, ?_, ?_⟩, ?_, ?_, ?_⟩ ⟨i0, i1, i2, (show (0 : Int32) ≤ 0 ∧ (0 : Int32) ≤ 8 by decide), (show (-1 : Int32) ≤ -1 ∧ (-1 : Int32) ≤ 0 by decide), (show (0 : Int32) ≤ 0 ∧ (0 : Int32) ≤ 1000000000 by decide), ?_⟩ (show (3 : Int32) ≠ 5 by decide) rfl ?_
  · show g j 0 = upd (a 4) (z 0) (a 4 j) (z 0); rw [pk_us, h0]
  · show g j 1 = upd (a 5) (z 0) (a 5 j) (z 0); rw [pk_us, h1]
  · show g j 2 = upd (a 7) (z 0) (a 7 j) (z 0); rw [pk_us, h2]
  · show 1 = upd (a 15) (z 0) 1 (z 0); rw [pk_us]
  · show 3 = upd (upd (a 6) j 6) (z 0) 3 (z 0); rw [pk_us]
  · show 0 = upd (a 8) (z 0) 0 (z 0); rw [pk_us]
  · show 1 = upd (a 10) (z 0) 1 (z 0); rw [pk_us]
  · show day = upd (a 11) (z 0) day (z 0); rw [pk_us]
  · show -1 = upd (a 12) (z 0) (-1) (z 0); rw [pk_us]
  · show -1 = upd (upd (a 13) j (nI (z 0))) (z 0) (-1) (z 0); rw [pk_us]
  · show 0 = upd (a 14) (z 0) 0 (z 0); rw [pk_us]
  · show 0 = upd (a 16) (z 0) 0 (z 0); rw [pk_us]
  · show -1 = upd (a 19) (z 0) (-1) (z 0); rw [pk_us]
  · intro h; exact absurd (show (3 : Int32) = 2 from h) (by decide)
  · intro h; exact absurd (show (0 : Int32) ≤ -1 from h) (by decide)
  · intro t ht h
    have h' : nI t < (0 : Int32) := h
    exact absurd h' (nI_pos (by omega))
  · show -1 ≤ day
    have := hd.1
    rw [Int32.le_iff_toInt_le, T0] at this
    rw [Int32.le_iff_toInt_le, Tm1]; omega
  · intro i hi
    by_cases ei : i = j
    · subst ei; rw [va_up_self]; intro _ _; exact Or.inl rfl
    · rw [va_up_ne _ _ ei]
      intro x0 x1
      exact Or.inl ((hQ i j hi hj ei x0 x1).resolve_right n6)
theorem eq_replace (H : Rl z bo g q pp dd zm a) {j : Nat} (hj : j < z 0) (day : Int32) : E2 (s_X_replace z bo g q pp dd j day) (s_M_replace th zm a j day) := by
  obtain ⟨⟨⟨h0, h1, h2, h3, h4, h5, h7, h8, h9, h10, h11, h12, h13⟩, hb, hc, hd⟩, hI⟩ := H.2.1 j hj
  have ez := H.1.1
  have z2 := H.1.2.1
  unfold s_X_replace s_M_replace
  by_cases c1 : 0 ≤ day ∧ day ≤ 1000000
  · rw [if_pos c1, if_pos c1, ← ez]
    have K := fun hn h4 => Rl_rep H hj hn h4 c1
    rw [← ez] at K
    have d1 : nI (z 0) < 200 ↔ z 0 < 200 := by rw [show (200 : Int32) = nI 200 from rfl, nI_ltI (by omega) (by decide)]
    have d2 : nI (z 0) = 200 ↔ ¬ z 0 < 200 := by rw [show (200 : Int32) = nI 200 from rfl, nI_eq (by omega) (by decide)]; omega
    by_cases s3 : a 6 j = 3
    · by_cases o : 0 ≤ a 19 j ∧ a 19 j < a 16 j
      · have n : ¬ ((g j 4 = 3 ∨ g j 4 = 4) ∧ ¬ (0 ≤ g j 13 ∧ g j 13 < g j 12)) := fun h => h.2 (by rw [h13, h12]; exact o)
        rw [if_neg n, if_pos s3, if_pos o]; exact E2_id H
      · have y : (g j 4 = 3 ∨ g j 4 = 4) ∧ ¬ (0 ≤ g j 13 ∧ g j 13 < g j 12) := ⟨Or.inl (h4.trans s3), by rw [h13, h12]; exact o⟩
        rw [if_pos y, if_pos s3, if_neg o]
        by_cases c2 : z 0 < 200
        · rw [if_pos (d1.mpr c2), if_neg (fun h => d2.mp h c2)]; exact ⟨rfl, K c2 y.1⟩
        · rw [if_neg (fun h => c2 (d1.mp h)), if_pos (d2.mpr c2)]; exact E2_id H
    · by_cases s4 : a 6 j = 4
      · by_cases o : 0 ≤ a 19 j ∧ a 19 j < a 16 j
        · have n : ¬ ((g j 4 = 3 ∨ g j 4 = 4) ∧ ¬ (0 ≤ g j 13 ∧ g j 13 < g j 12)) := fun h => h.2 (by rw [h13, h12]; exact o)
          rw [if_neg n, if_neg s3, if_pos s4, if_pos o]; exact E2_id H
        · have y : (g j 4 = 3 ∨ g j 4 = 4) ∧ ¬ (0 ≤ g j 13 ∧ g j 13 < g j 12) := ⟨Or.inr (h4.trans s4), by rw [h13, h12]; exact o⟩
          rw [if_pos y, if_neg s3, if_pos s4, if_neg o]
          by_cases c2 : z 0 < 200
          · rw [if_pos (d1.mpr c2), if_neg (fun h => d2.mp h c2)]; exact ⟨rfl, K c2 y.1⟩
          · rw [if_neg (fun h => c2 (d1.mp h)), if_pos (d2.mpr c2)]; exact E2_id H
      · have n : ¬ ((g j 4 = 3 ∨ g j 4 = 4) ∧ ¬ (0 ≤ g j 13 ∧ g j 13 < g j 12)) := fun h => h.1.elim (fun e => s3 (h4.symm.trans e)) (fun e => s4 (h4.symm.trans e))
        rw [if_neg n, if_neg s3, if_neg s4]; exact E2_id H
  · rw [if_neg c1, if_neg c1]; exact E2_id H
end EQ
