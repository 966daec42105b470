section EQ
variable {z bo zm : Nat → Nat} {g q pp dd a : Nat → Nat → Int32} {th : Int32}
/-- a claim is written down on both sides -/
theorem Rl_round (H : Rl z bo g q pp dd zm a) (hz1 : z 1 < 200) (x y : Int32) : Rl (va_up z 1 (z 1 + 1)) bo g (va_up (va_up q 3 (upd (q 3) (z 1) x)) 4 (upd (q 4) (z 1) y)) pp dd (va_up zm 1 (zm 1 + 1)) (va_up (va_up a 21 (upd (a 21) (zm 1) x)) 22 (upd (a 22) (zm 1) y)) := by
  obtain ⟨z0, hA, hU, ⟨e, hl, hq⟩, hN, hS, hO, hQ, hV⟩ := H
  refine ⟨z0, ?_, hU, ?_, hN, hS, hO, hQ, VO_same hV (fun _ _ => Iff.rfl) (fun _ _ => rfl) (fun _ _ => rfl) rfl rfl⟩
  · intro i hi
    exact ⟨RI_frame (hA i hi).1 rfl rfl rfl rfl rfl rfl rfl rfl rfl rfl rfl rfl rfl rfl rfl (fun _ _ => rfl) (fun _ _ => rfl), (hA i hi).2⟩
  · refine ⟨show z 1 + 1 = zm 1 + 1 by omega, show z 1 + 1 ≤ 200 by omega, fun t ht => ?_⟩
    have ht' : t < z 1 + 1 := ht
    show upd (q 3) (z 1) x t = upd (a 21) (zm 1) x t ∧ upd (q 4) (z 1) y t = upd (a 22) (zm 1) y t
    rw [← e]
    by_cases et : t = z 1
    · subst et; exact ⟨by rw [pk_us, pk_us], by rw [pk_us, pk_us]⟩
    · rw [pk_un et, pk_un et, pk_un et, pk_un et]; exact hq t (by omega)
theorem Rl_state (H : Rl z bo g q pp dd zm a) {j : Nat} (hj : j < z 0) (h4 : g j 4 = 1 ∨ g j 4 = 2) : Rl z bo (va_up g j (upd (g j) 4 4)) q pp dd zm (va_up a 6 (upd (a 6) j 4)) := by
  obtain ⟨⟨⟨h0, h1, h2, h3, h4', h5, h7, h8, h9, h10, h11, h12, h13⟩, hb, hc, hd⟩, hI⟩ := H.2.1 j hj
  have n5 : g j 4 ≠ 5 := by rcases h4 with e | e <;> rw [e] <;> decide
  have n6 : g j 4 ≠ 6 := by rcases h4 with e | e <;> rw [e] <;> decide
  refine Rl_upd H hj (cj1 (by decide)) ⟨rfl, rfl, rfl, rfl, rfl, rfl, rfl, rfl, rfl, rfl⟩ ⟨⟨h0, h1, h2, h3, ?_, h5, h7, h8, h9, h10, h11, h12, h13⟩, ?_, hc, hd⟩ hI rfl rfl ⟨fun h => absurd (show (4 : Int32) = 5 from h) (by decide), fun h => absurd h n5⟩ rfl (fun h => absurd h n6)
  · show 4 = upd (a 6) j 4 j; rw [pk_us]
  · intro h; exact absurd (show (4 : Int32) = 2 from h) (by decide)
theorem Rl_claim (H : Rl z bo g q pp dd zm a) {j : Nat} (hj : j < z 0) (h4 : g j 4 = 1 ∨ g j 4 = 2) {day : Int32} : Rl z bo (va_up g j (upd (upd (upd (g j) 4 2) 5 (g j 5 + 1)) 6 day)) q pp dd zm (va_up (va_up (va_up a 6 (upd (a 6) j 2)) 8 (upd (a 8) j (a 8 j + 1))) 9 (upd (a 9) j day)) := by
  obtain ⟨⟨⟨h0, h1, h2, h3, h4', h5, h7, h8, h9, h10, h11, h12, h13⟩, hb, hc, hd⟩, hI⟩ := H.2.1 j hj
  have n5 : g j 4 ≠ 5 := by rcases h4 with e | e <;> rw [e] <;> decide
  have n6 : g j 4 ≠ 6 := by rcases h4 with e | e <;> rw [e] <;> decide
  refine Rl_upd H hj (cj_s (cj_s (cj1 (by decide)) (by decide)) (by decide)) ⟨rfl, rfl, rfl, rfl, rfl, rfl, rfl, rfl, rfl, rfl⟩ ⟨⟨h0, h1, h2, h3, ?_, ?_, h7, h8, h9, h10, h11, h12, h13⟩, ?_, hc, hd⟩ hI rfl rfl ⟨fun h => absurd (show (2 : Int32) = 5 from h) (by decide), fun h => absurd h n5⟩ rfl (fun h => absurd h n6)
  · show 2 = upd (a 6) j 2 j; rw [pk_us]
  · show g j 5 + 1 = upd (a 8) j (a 8 j + 1) j; rw [pk_us, h5]
  · intro _; show day = upd (a 9) j day j; rw [pk_us]
theorem eq_ask (H : Rl z bo g q pp dd zm a) {j : Nat} (hj : j < z 0) (hz1 : z 1 < 200) (day : Int32) : E2 (s_X_claimIfDue z bo g q pp dd j (g j 0).toNatClampNeg day) (s_M_askFor th zm a j day) := by
  obtain ⟨⟨⟨h0, h1, h2, h3, h4, h5, h7, h8, h9, h10, h11, h12, h13⟩, hb, hc, hd⟩, hI⟩ := H.2.1 j hj
  obtain ⟨hp, -⟩ := px_p hI.1
  obtain ⟨u0, u1, u2⟩ := H.2.2.1 _ hp
  have e1 := H.2.2.2.1.1
  have N := fun q1 => Rl_note (Rl_state H hj q1) 3 (nI j)
  have C := fun q1 => Rl_round (Rl_claim H hj q1 (day := day)) hz1 (nI j) (g j 5 + 1)
  unfold s_X_claimIfDue s_M_askFor
  rw [← h4, ← h2, ← h5, ← h0, ← u0, ← u1, ← u2]
  simp only [pk_us]
  have d21 : ¬ (2 : Int32) = 1 := by decide
  have d12 : ¬ (1 : Int32) = 2 := by decide
  by_cases s1 : g j 4 = 1
  · by_cases c : q 0 (g j 0).toNatClampNeg ≤ day - g j 2
    · have c' : ¬ day - g j 2 < q 0 (g j 0).toNatClampNeg := Int32.not_lt.mpr c
      have D : (g j 4 = 1 ∧ q 0 (g j 0).toNatClampNeg ≤ day - g j 2) ∨ (g j 4 = 2 ∧ q 1 (g j 0).toNatClampNeg ≤ day - g j 6) := Or.inl ⟨s1, c⟩
      simp only [if_pos D, if_pos s1, if_neg c']
      by_cases m : q 2 (g j 0).toNatClampNeg ≤ g j 5
      · simp only [if_pos m, if_neg (Int32.not_lt.mpr m)]; exact ⟨rfl, N (Or.inl s1)⟩
      · simp only [if_neg m, if_pos (Int32.not_le.mp m)]
        refine ⟨rfl, ?_⟩
        have K := C (Or.inl s1)
        rw [← h5] at K
        exact K
    · have c' : day - g j 2 < q 0 (g j 0).toNatClampNeg := Int32.not_le.mp c
      have D : ¬ ((g j 4 = 1 ∧ q 0 (g j 0).toNatClampNeg ≤ day - g j 2) ∨ (g j 4 = 2 ∧ q 1 (g j 0).toNatClampNeg ≤ day - g j 6)) := fun h => h.elim (fun h => c h.2) (fun h => d12 (s1.symm.trans h.1))
      simp only [if_neg D, if_pos s1, if_pos c']; exact ⟨rfl, H⟩
  · by_cases s2 : g j 4 = 2
    · rw [← hb s2]
      by_cases c : q 1 (g j 0).toNatClampNeg ≤ day - g j 6
      · have c' : ¬ day - g j 6 < q 1 (g j 0).toNatClampNeg := Int32.not_lt.mpr c
        have D : (g j 4 = 1 ∧ q 0 (g j 0).toNatClampNeg ≤ day - g j 2) ∨ (g j 4 = 2 ∧ q 1 (g j 0).toNatClampNeg ≤ day - g j 6) := Or.inr ⟨s2, c⟩
        simp only [if_pos D, if_neg s1, if_pos s2, if_neg c']
        by_cases m : q 2 (g j 0).toNatClampNeg ≤ g j 5
        · simp only [if_pos m, if_neg (Int32.not_lt.mpr m)]; exact ⟨rfl, N (Or.inr s2)⟩
        · simp only [if_neg m, if_pos (Int32.not_le.mp m)]
          refine ⟨rfl, ?_⟩
          have K := C (Or.inr s2)
          rw [← h5] at K
          exact K
      · have c' : day - g j 6 < q 1 (g j 0).toNatClampNeg := Int32.not_le.mp c
        have D : ¬ ((g j 4 = 1 ∧ q 0 (g j 0).toNatClampNeg ≤ day - g j 2) ∨ (g j 4 = 2 ∧ q 1 (g j 0).toNatClampNeg ≤ day - g j 6)) := fun h => h.elim (fun h => s1 h.1) (fun h => c h.2)
        simp only [if_neg D, if_neg s1, if_pos s2, if_pos c']; exact ⟨rfl, H⟩
    · have D : ¬ ((g j 4 = 1 ∧ q 0 (g j 0).toNatClampNeg ≤ day - g j 2) ∨ (g j 4 = 2 ∧ q 1 (g j 0).toNatClampNeg ≤ day - g j 6)) := fun h => h.elim (fun h => s1 h.1) (fun h => s2 h.1)
      simp only [if_neg D, if_neg s1, if_neg s2]; exact ⟨rfl, H⟩
end EQ
theorem eq_claim1 (day : Int32) (n : Nat) (hn : n ≤ 200) : ∀ (k i : Nat) (z bo zm : Nat → Nat) (g q pp dd a : Nat → Nat → Int32) (th : Int32), Rl z bo g q pp dd zm a → z 0 = n → i + k = n → z 1 ≤ i → E2 (lp_xclaim day k z bo g q pp dd i) (lp_claim day k th zm a i)
  | 0, i, z, bo, zm, g, q, pp, dd, a, th, H, h0, hk, h1 => by
    rw [lp_xclaim, lp_claim]
    exact ⟨by show nI (z 1) = nI (zm 1); rw [H.2.2.2.1.1], H⟩
  | k + 1, i, z, bo, zm, g, q, pp, dd, a, th, H, h0, hk, h1 => by
    rw [lp_xclaim, lp_claim]
    have E := (eq_ask (th := th) H (j := i) (by omega) (by omega) day).2
    obtain ⟨q1, q2, -, -⟩ := cid_inv (z := z) (bo := bo) (g := g) (q := q) (pp := pp) (dd := dd) (j := i) (p := (g i 0).toNatClampNeg) (day := day)
    exact eq_claim1 day n hn k (i + 1) _ _ _ _ _ _ _ _ _ E (q1.trans h0) (by omega) (by omega)
theorem eq_claim {z bo zm : Nat → Nat} {g q pp dd a : Nat → Nat → Int32} {th : Int32} (H : Rl z bo g q pp dd zm a) (day : Int32) : E2 (s_X_claim z bo g q pp dd day) (s_M_claim th zm a day) := by
  unfold s_X_claim s_M_claim
  by_cases c : 0 ≤ day ∧ day ≤ 1000000
  · rw [if_pos c, if_pos c, ← H.1.1]
    have H' : Rl (va_up z 1 0) bo g q pp dd (va_up zm 1 0) a := by
      obtain ⟨z0, hA, hU, hRR, hN, hS, hO, hQ, hV⟩ := H
      exact ⟨z0, hA, hU, ⟨rfl, Nat.zero_le _, fun t ht => absurd ht (Nat.not_lt_zero t)⟩, hN, hS, hO, hQ, hV⟩
    exact eq_claim1 day (z 0) H.1.2.1 (z 0) 0 _ _ _ _ _ _ _ _ _ H' rfl (by omega) (Nat.le_refl _)
  · rw [if_neg c, if_neg c]; exact E2_id H
