section OPS
variable {z bo zm : Nat → Nat} {g q pp dd a : Nat → Nat → Int32}
theorem Rl_b (H : Rl z bo g q pp dd zm a) : z 0 ≤ 200 ∧ zm 0 ≤ 200 ∧ z 2 ≤ 100 ∧ zm 4 ≤ 100 ∧ z 3 ≤ 40 ∧ z 0 = zm 0 := by
  obtain ⟨e3, l3, -⟩ := Rl_e3 H
  have h1 := H.1.1
  have h2 := H.1.2.1
  have h3 := H.2.2.2.2.1.1
  have h4 := H.2.2.2.2.1.2.1
  exact ⟨h2, by omega, h4, by omega, l3, h1⟩
theorem Rl_12 (H : Rl z bo g q pp dd zm a) {j : Nat} (hj : j < z 0) : (0 ≤ g j 12 ∧ g j 12 ≤ 8) ∧ 0 ≤ a 16 j ∧ a 16 j ≤ 8 := by
  have h := (H.2.1 j hj).2.2.2.2.1
  exact ⟨h, by rw [← (H.2.1 j hj).1.1.2.2.2.2.2.2.2.2.2.2.2.1]; exact h⟩
theorem Rl_pa (H : Rl z bo g q pp dd zm a) {j : Nat} (hj : j < z 0) : (0 ≤ g j 0 ∧ g j 0 ≤ 9) ∧ 0 ≤ a 4 j ∧ a 4 j ≤ 9 := by
  have h := (H.2.1 j hj).2.1
  exact ⟨h, by rw [← (H.2.1 j hj).1.1.1]; exact h⟩
theorem op_rule (H : Rl z bo g q pp dd zm a) (th x1 x2 x3 x4 : Int32) : ∃ (R : XS) (T : MS), OpX y_X_rule w_X_rule ({ frames := 2, cells := 0, slots := 0, locals := 42 }) 0 0 [.int x1, .int x2, .int x3, .int x4] z bo g q pp dd R ∧ OpM y_M_rule w_M_rule ({ frames := 1, cells := 0, slots := 0, locals := 22 }) [.int x1, .int x2, .int x3, .int x4] th zm a T ∧ E2 R T := by
  obtain ⟨z0, zm0, z2, zm4, z3, ez⟩ := Rl_b H
  by_cases h : 0 ≤ x1 ∧ x1 ≤ 9
  · obtain ⟨hp, ep⟩ := px_p h
    generalize x1.toNatClampNeg = p at hp ep
    subst ep
    exact ⟨_, _, fun l D cs bk sz => c_X_rule l D cs bk sz z bo g q pp dd p hp x2 x3 x4, fun l D cs bk sz => c_M_rule l D cs bk sz th zm a (nI p) x2 x3 x4, eq_rule (th := th) H hp x2 x3 x4⟩
  · refine ⟨_, _, fun l D cs bk sz => c_X_rule_out l D cs bk sz z bo g q pp dd x1 h x2 x3 x4, fun l D cs bk sz => c_M_rule l D cs bk sz th zm a x1 x2 x3 x4, ?_⟩
    unfold s_M_rule
    rw [if_neg h]
    exact ⟨rfl, H⟩
theorem op_issue (H : Rl z bo g q pp dd zm a) (th x1 x2 x3 : Int32) : ∃ (R : XS) (T : MS), OpG y_X_issue w_X_issue ({ frames := 3, cells := 4, slots := 35, locals := 57 }) 4 35 [.int x1, .int x2, .int x3] z bo g q pp dd R ∧ OpM y_M_issue w_M_issue ({ frames := 2, cells := 0, slots := 0, locals := 42 }) [.int x1, .int x2, .int x3] th zm a T ∧ E2 R T := by
  obtain ⟨z0, zm0, z2, zm4, z3, ez⟩ := Rl_b H
  exact ⟨_, _, fun l D cs bk sz => c_X_issue l D cs bk sz z bo g q pp dd z0 H.2.2.2.2.2.2.1.1 x1 x2 x3, fun l D cs bk sz => c_M_issue l D cs bk sz th zm a zm0 x1 x2 x3, eq_issue (th := th) H x1 x2 x3⟩
theorem op_checkIn (H : Rl z bo g q pp dd zm a) (th x1 x2 x3 : Int32) : ∃ (R : XS) (T : MS), OpX y_X_checkIn w_X_checkIn ({ frames := 2, cells := 0, slots := 0, locals := 43 }) 0 0 [.int x1, .int x2, .int x3] z bo g q pp dd R ∧ OpM y_M_checkIn w_M_checkIn ({ frames := 2, cells := 0, slots := 0, locals := 43 }) [.int x1, .int x2, .int x3] th zm a T ∧ E2 R T := by
  obtain ⟨z0, zm0, z2, zm4, z3, ez⟩ := Rl_b H
  by_cases h : 0 ≤ x1 ∧ x1 < nI (z 0)
  · obtain ⟨j, hj, rfl⟩ := ix_of h (by omega)
    have h12 := Rl_12 H hj
    exact ⟨_, _, fun l D cs bk sz => c_X_checkIn l D cs bk sz z bo g q pp dd z0 j hj z2 x2 x3, fun l D cs bk sz => c_M_checkIn l D cs bk sz th zm a zm0 j (by omega) zm4 x2 x3, eq_checkIn (th := th) H hj x2 x3⟩
  · exact ⟨_, _, fun l D cs bk sz => c_X_checkIn_out l D cs bk sz z bo g q pp dd z0 x1 h x2 x3, fun l D cs bk sz => c_M_checkIn_out l D cs bk sz th zm a zm0 x1 (by rw [← ez]; exact h) x2 x3, rfl, H⟩
theorem op_claim (H : Rl z bo g q pp dd zm a) (th x1 : Int32) : ∃ (R : XS) (T : MS), OpX y_X_claim w_X_claim ({ frames := 2, cells := 0, slots := 0, locals := 45 }) 0 0 [.int x1] z bo g q pp dd R ∧ OpM y_M_claim w_M_claim ({ frames := 2, cells := 0, slots := 0, locals := 46 }) [.int x1] th zm a T ∧ E2 R T := by
  obtain ⟨z0, zm0, z2, zm4, z3, ez⟩ := Rl_b H
  exact ⟨_, _, fun l D cs bk sz => c_X_claim l D cs bk sz z bo g q pp dd z0 z2 (fun j hj => (Rl_pa H hj).1) x1, fun l D cs bk sz => c_M_claim l D cs bk sz th zm a zm0 zm4 (fun j hj => (Rl_pa H (by omega)).2) x1, eq_claim (th := th) H x1⟩
theorem op_list (H : Rl z bo g q pp dd zm a) (th x1 x2 x3 : Int32) : ∃ (R : XS) (T : MS), OpX y_X_list w_X_list ({ frames := 2, cells := 0, slots := 0, locals := 43 }) 0 0 [.int x1, .int x2, .int x3] z bo g q pp dd R ∧ OpM y_M_list w_M_list ({ frames := 2, cells := 0, slots := 0, locals := 43 }) [.int x1, .int x2, .int x3] th zm a T ∧ E2 R T := by
  obtain ⟨z0, zm0, z2, zm4, z3, ez⟩ := Rl_b H
  by_cases h : 0 ≤ x1 ∧ x1 < nI (z 0)
  · obtain ⟨j, hj, rfl⟩ := ix_of h (by omega)
    have h12 := Rl_12 H hj
    exact ⟨_, _, fun l D cs bk sz => c_X_list l D cs bk sz z bo g q pp dd z0 j hj h12.1.1 x2 x3, fun l D cs bk sz => c_M_list l D cs bk sz th zm a zm0 j (by omega) h12.2 x2 x3, eq_list (th := th) H hj x2 x3⟩
  · exact ⟨_, _, fun l D cs bk sz => c_X_list_out l D cs bk sz z bo g q pp dd z0 x1 h x2 x3, fun l D cs bk sz => c_M_list_out l D cs bk sz th zm a zm0 x1 (by rw [← ez]; exact h) x2 x3, rfl, H⟩
theorem op_route (H : Rl z bo g q pp dd zm a) (th x1 x2 : Int32) : ∃ (R : XS) (T : MS), OpX y_X_route w_X_route ({ frames := 2, cells := 0, slots := 0, locals := 43 }) 0 0 [.int x1, .int x2] z bo g q pp dd R ∧ OpM y_M_route w_M_route ({ frames := 2, cells := 0, slots := 0, locals := 43 }) [.int x1, .int x2] th zm a T ∧ E2 R T := by
  obtain ⟨z0, zm0, z2, zm4, z3, ez⟩ := Rl_b H
  by_cases h : 0 ≤ x1 ∧ x1 < nI (z 0)
  · obtain ⟨j, hj, rfl⟩ := ix_of h (by omega)
    have h12 := Rl_12 H hj
    exact ⟨_, _, fun l D cs bk sz => c_X_route l D cs bk sz z bo g q pp dd z0 j hj h12.1.1 h12.1.2 x2, fun l D cs bk sz => c_M_route l D cs bk sz th zm a zm0 j (by omega)  x2, eq_route (th := th) H hj x2⟩
  · exact ⟨_, _, fun l D cs bk sz => c_X_route_out l D cs bk sz z bo g q pp dd z0 x1 h x2, fun l D cs bk sz => c_M_route_out l D cs bk sz th zm a zm0 x1 (by rw [← ez]; exact h) x2, rfl, H⟩
theorem op_returned (H : Rl z bo g q pp dd zm a) (th x1 x2 : Int32) : ∃ (R : XS) (T : MS), OpX y_X_returned w_X_returned ({ frames := 2, cells := 0, slots := 0, locals := 43 }) 0 0 [.int x1, .int x2] z bo g q pp dd R ∧ OpM y_M_returned w_M_returned ({ frames := 2, cells := 0, slots := 0, locals := 43 }) [.int x1, .int x2] th zm a T ∧ E2 R T := by
  obtain ⟨z0, zm0, z2, zm4, z3, ez⟩ := Rl_b H
  by_cases h : 0 ≤ x1 ∧ x1 < nI (z 0)
  · obtain ⟨j, hj, rfl⟩ := ix_of h (by omega)
    have h12 := Rl_12 H hj
    exact ⟨_, _, fun l D cs bk sz => c_X_returned l D cs bk sz z bo g q pp dd z0 j hj z2 h12.1.2 x2, fun l D cs bk sz => c_M_returned l D cs bk sz th zm a zm0 j (by omega) zm4 h12.2 x2, eq_returned (th := th) H hj x2⟩
  · exact ⟨_, _, fun l D cs bk sz => c_X_returned_out l D cs bk sz z bo g q pp dd z0 x1 h x2, fun l D cs bk sz => c_M_returned_out l D cs bk sz th zm a zm0 x1 (by rw [← ez]; exact h) x2, rfl, H⟩
theorem op_replace (H : Rl z bo g q pp dd zm a) (th x1 x2 : Int32) : ∃ (R : XS) (T : MS), OpG y_X_replace w_X_replace ({ frames := 3, cells := 4, slots := 35, locals := 57 }) 4 35 [.int x1, .int x2] z bo g q pp dd R ∧ OpM y_M_replace w_M_replace ({ frames := 2, cells := 0, slots := 0, locals := 43 }) [.int x1, .int x2] th zm a T ∧ E2 R T := by
  obtain ⟨z0, zm0, z2, zm4, z3, ez⟩ := Rl_b H
  by_cases h : 0 ≤ x1 ∧ x1 < nI (z 0)
  · obtain ⟨j, hj, rfl⟩ := ix_of h (by omega)
    have h12 := Rl_12 H hj
    exact ⟨_, _, fun l D cs bk sz => c_X_replace l D cs bk sz z bo g q pp dd z0 j hj H.2.2.2.2.2.2.1.1 x2, fun l D cs bk sz => c_M_replace l D cs bk sz th zm a zm0 j (by omega)  x2, eq_replace (th := th) H hj x2⟩
  · exact ⟨_, _, fun l D cs bk sz => c_X_replace_out l D cs bk sz z bo g q pp dd z0 x1 h x2, fun l D cs bk sz => c_M_replace_out l D cs bk sz th zm a zm0 x1 (by rw [← ez]; exact h) x2, rfl, H⟩
theorem op_bind (H : Rl z bo g q pp dd zm a) (th x1 x2 : Int32) : ∃ (R : XS) (T : MS), OpX y_X_bind w_X_bind ({ frames := 3, cells := 0, slots := 0, locals := 69 }) 0 0 [.int x1, .int x2] z bo g q pp dd R ∧ OpM y_M_bind w_M_bind ({ frames := 1, cells := 0, slots := 0, locals := 24 }) [.int x1, .int x2] th zm a T ∧ E2 R T := by
  obtain ⟨z0, zm0, z2, zm4, z3, ez⟩ := Rl_b H
  by_cases h : 1 ≤ x2 ∧ x2 ≤ 50
  · obtain ⟨nb, hnb, rfl⟩ := nI_of (x := x2) (by
      have := h.1
      rw [Int32.le_iff_toInt_le, T1] at this
      rw [Int32.lt_iff_toInt_lt, T0]; omega)
    have hb : 1 ≤ nb ∧ nb ≤ 50 := by
      simp only [Int32.le_iff_toInt_le, nI_toInt hnb, T1, T50] at h; omega
    exact ⟨_, _, fun l D cs bk sz => c_X_bind l D cs bk sz z bo g q pp dd z0 H.2.2.2.2.2.2.1.1 z3 x1 nb hb (cB g (z 0)) (Rl_e3 H).2.2 (Nat.le_refl _), fun l D cs bk sz => c_M_bind l D cs bk sz th zm a zm0 x1 nb hb, eq_bind (th := th) H x1 hb.2⟩
  · exact ⟨_, _, fun l D cs bk sz => c_X_bind_out l D cs bk sz z bo g q pp dd x1 x2 h, fun l D cs bk sz => c_M_bind_out l D cs bk sz th zm a x1 x2 h, eq_bind_out (th := th) H x1 x2⟩
theorem op_statement (H : Rl z bo g q pp dd zm a) (th x1 : Int32) : ∃ (R : XS) (T : MS), OpX y_X_statement w_X_statement ({ frames := 2, cells := 0, slots := 0, locals := 42 }) 0 0 [.int x1] z bo g q pp dd R ∧ OpM y_M_statement w_M_statement ({ frames := 1, cells := 0, slots := 0, locals := 24 }) [.int x1] th zm a T ∧ E2 R T := by
  obtain ⟨z0, zm0, z2, zm4, z3, ez⟩ := Rl_b H
  exact ⟨_, _, fun l D cs bk sz => c_X_statement l D cs bk sz z bo g q pp dd z0 H.2.2.2.2.2.2.1.1 x1, fun l D cs bk sz => c_M_statement l D cs bk sz th zm a zm0 (fun j hj => Rl_ord H (by omega)) x1, eq_statement (th := th) H x1⟩
theorem op_about (H : Rl z bo g q pp dd zm a) (th x1 x2 : Int32) : ∃ (R : XS) (T : MS), OpX y_X_about w_X_about ({ frames := 3, cells := 0, slots := 0, locals := 61 }) 0 0 [.int x1, .int x2] z bo g q pp dd R ∧ OpM y_M_about w_M_about ({ frames := 2, cells := 0, slots := 0, locals := 43 }) [.int x1, .int x2] th zm a T ∧ E2 R T := by
  obtain ⟨z0, zm0, z2, zm4, z3, ez⟩ := Rl_b H
  by_cases h : 0 ≤ x1 ∧ x1 < nI (z 0)
  · obtain ⟨j, hj, rfl⟩ := ix_of h (by omega)
    have h12 := Rl_12 H hj
    exact ⟨_, _, fun l D cs bk sz => c_X_about l D cs bk sz z bo g q pp dd z0 j hj h12.1.2 x2, fun l D cs bk sz => c_M_about l D cs bk sz th zm a zm0 j (by omega) h12.2 x2, eq_about (th := th) H hj x2⟩
  · exact ⟨_, _, fun l D cs bk sz => c_X_about_out l D cs bk sz z bo g q pp dd z0 x1 h x2, fun l D cs bk sz => c_M_about_out l D cs bk sz th zm a zm0 x1 (by rw [← ez]; exact h) x2, rfl, H⟩
theorem op_cost (H : Rl z bo g q pp dd zm a) (th x1 x2 : Int32) : ∃ (R : XS) (T : MS), OpX y_X_cost w_X_cost ({ frames := 2, cells := 0, slots := 0, locals := 43 }) 0 0 [.int x1, .int x2] z bo g q pp dd R ∧ OpM y_M_cost w_M_cost ({ frames := 2, cells := 0, slots := 0, locals := 43 }) [.int x1, .int x2] th zm a T ∧ E2 R T := by
  obtain ⟨z0, zm0, z2, zm4, z3, ez⟩ := Rl_b H
  by_cases h : 0 ≤ x1 ∧ x1 < nI (z 0)
  · obtain ⟨j, hj, rfl⟩ := ix_of h (by omega)
    have h12 := Rl_12 H hj
    exact ⟨_, _, fun l D cs bk sz => c_X_cost l D cs bk sz z bo g q pp dd z0 j hj  x2, fun l D cs bk sz => c_M_cost l D cs bk sz th zm a zm0 j (by omega)  x2, eq_cost (th := th) H hj x2⟩
  · exact ⟨_, _, fun l D cs bk sz => c_X_cost_out l D cs bk sz z bo g q pp dd z0 x1 h x2, fun l D cs bk sz => c_M_cost_out l D cs bk sz th zm a zm0 x1 (by rw [← ez]; exact h) x2, rfl, H⟩
theorem op_told (H : Rl z bo g q pp dd zm a) (th x1 x2 : Int32) : ∃ (R : XS) (T : MS), OpX y_X_told w_X_told ({ frames := 3, cells := 0, slots := 0, locals := 66 }) 0 0 [.int x1, .int x2] z bo g q pp dd R ∧ OpM y_M_told w_M_told ({ frames := 1, cells := 0, slots := 0, locals := 22 }) [.int x1, .int x2] th zm a T ∧ E2 R T := by
  obtain ⟨z0, zm0, z2, zm4, z3, ez⟩ := Rl_b H
  exact ⟨_, _, fun l D cs bk sz => c_X_told l D cs bk sz z bo g q pp dd z2 x1 x2, fun l D cs bk sz => c_M_told l D cs bk sz th zm a zm4 x1 x2, eq_told (th := th) H x1 x2⟩
theorem op_lateness (H : Rl z bo g q pp dd zm a) (th x1 : Int32) : ∃ (R : XS) (T : MS), OpX y_X_lateness w_X_lateness ({ frames := 2, cells := 0, slots := 0, locals := 42 }) 0 0 [.int x1] z bo g q pp dd R ∧ OpM y_M_lateness w_M_lateness ({ frames := 1, cells := 0, slots := 0, locals := 22 }) [.int x1] th zm a T ∧ E2 R T := by
  obtain ⟨z0, zm0, z2, zm4, z3, ez⟩ := Rl_b H
  exact ⟨_, _, fun l D cs bk sz => c_X_lateness l D cs bk sz z bo g q pp dd z0 x1, fun l D cs bk sz => c_M_lateness l D cs bk sz th zm a zm0 x1, eq_lateness (th := th) H x1⟩
end OPS
