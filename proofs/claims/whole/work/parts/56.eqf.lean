theorem has_no {g : Nat → Nat → Int32} {pt od : Int32} : ∀ k i, lp_has g pt od k i = 0 → ∀ x, i ≤ x → x < i + k → g x 0 = pt → g x 1 ≠ od
  | 0, i, _, x, h1, h2 => by omega
  | k + 1, i, h, x, h1, h2 => by
    rw [lp_has] at h
    by_cases c0 : g i 0 = pt
    · rw [if_pos c0] at h
      by_cases c1 : g i 1 = od
      · rw [if_pos c1] at h; exact absurd h (by decide)
      · rw [if_neg c1] at h
        by_cases e : x = i
        · subst e; exact fun _ => c1
        · exact has_no k (i + 1) h x (by omega) (by omega)
    · rw [if_neg c0] at h
      by_cases e : x = i
      · subst e; exact fun q => absurd q c0
      · exact has_no k (i + 1) h x (by omega) (by omega)
section EQ
variable {z bo zm : Nat → Nat} {g q pp dd a : Nat → Nat → Int32} {th : Int32}
theorem issue_lp (H : Rl z bo g q pp dd zm a) (pt od day : Int32) : ∀ k i, i + k = z 0 → lp_issue th zm a pt od day k i = if lp_has g pt od k i = 0 then lp_issue th zm a pt od day 0 (z 0) else (-3, th, zm, a)
  | 0, i, h => by rw [lp_has, if_pos rfl, show i = z 0 from h]
  | k + 1, i, h => by
    have ih := issue_lp H pt od day k (i + 1) (by omega)
    obtain ⟨⟨⟨h0, h1, -⟩, -⟩, -⟩ := H.2.1 i (by omega)
    generalize lp_issue th zm a pt od day 0 (z 0) = Y at ih ⊢
    rw [lp_issue, lp_has, ← h0, ← h1]
    by_cases c0 : g i 0 = pt
    · rw [if_pos c0, if_pos c0]
      by_cases c1 : g i 1 = od
      · rw [if_pos c1, if_pos c1, if_neg (by decide)]
      · rw [if_neg c1, if_neg c1, ih]
    · rw [if_neg c0, if_neg c0, ih]
theorem Rl_lay (H : Rl z bo g q pp dd zm a) (hn : z 0 < 200) {pt od day : Int32} (hp : 0 ≤ pt ∧ pt ≤ 9) (ho : 1 ≤ od ∧ od ≤ 9999) (hd : day = -1 ∨ (0 ≤ day ∧ day ≤ 1000000)) (hh : lp_has g pt od (z 0) 0 = 0) :
    Rl (va_up z 0 (z 0 + 1)) (insB bo (insP bo (va_up g (z 0) (recI pt od day 0)) ((va_up g (z 0) (recI pt od day 0)) (z 0) 1) (z 0)) (z 0)) (va_up g (z 0) (recI pt od day 0)) q (va_up pp (z 0) (fun _ => 0)) (va_up dd (z 0) (fun _ => 0)) (va_up zm 0 (zm 0 + 1)) (va_up (va_up (va_up (va_up (va_up (va_up (va_up (va_up (va_up (va_up (va_up (va_up a 4 (upd (a 4) (z 0) pt)) 5 (upd (a 5) (z 0) od)) 7 (upd (a 7) (z 0) day)) 6 (upd (a 6) (z 0) (if 0 ≤ day then 1 else 0))) 8 (upd (a 8) (z 0) 0)) 10 (upd (a 10) (z 0) 0)) 11 (upd (a 11) (z 0) (-1))) 12 (upd (a 12) (z 0) (-1))) 13 (upd (a 13) (z 0) (-1))) 14 (upd (a 14) (z 0) 0)) 16 (upd (a 16) (z 0) 0)) 19 (upd (a 19) (z 0) (-1))) := by
  have e1 : (va_up g (z 0) (recI pt od day 0)) (z 0) 1 = (recI pt od day 0) 1 := by rw [va_up_self]
  rw [e1]
  have st : (if day = -1 then (0 : Int32) else 1) = if 0 ≤ day then 1 else 0 := by
    rcases hd with e | e
    · subst e; decide
    · rw [if_pos e.1, if_neg (fun h => by rw [h] at e; exact absurd e.1 (by decide))]
  have n5 : (if day = -1 then (0 : Int32) else 1) ≠ 5 := by split <;> decide
  have n2 : (if day = -1 then (0 : Int32) else 1) ≠ 2 := by split <;> decide
  refine Rl_new H hn (cj_s (cj_s (cj_s (cj_s (cj_s (cj_s (cj_s (cj_s (cj_s (cj_s (cj_s (cj1 (by decide)) (by decide)) (by decide)) (by decide)) (by decide)) (by decide)) (by decide)) (by decide)) (by decide)) (by decide)) (by decide)) (by decide)) ⟨rfl, rfl, rfl, rfl, rfl, rfl, rfl, rfl, rfl, rfl⟩ ⟨⟨?_, ?_, ?_, ?_, ?_, ?_, ?_, ?_, ?_, ?_, ?_, ?_, ?_⟩, ?_, ?_, ?_⟩ ⟨hp, ho, ?_, (show (0 : Int32) ≤ 0 ∧ (0 : Int32) ≤ 8 by decide), (show (-1 : Int32) ≤ -1 ∧ (-1 : Int32) ≤ 0 by decide), (show (0 : Int32) ≤ 0 ∧ (0 : Int32) ≤ 1000000000 by decide), (show (-1 : Int32) ≤ -1 by decide)⟩ n5 rfl (fun i hi x0 x1 => absurd x1 (has_no (z 0) 0 hh i (Nat.zero_le _) (by omega) x0))
  · show pt = upd (a 4) (z 0) pt (z 0); rw [pk_us]
  · show od = upd (a 5) (z 0) od (z 0); rw [pk_us]
  · show day = upd (a 7) (z 0) day (z 0); rw [pk_us]
  · show 0 = a 15 (z 0); exact (H.1.2.2 (z 0) (Nat.le_refl _)).symm
  · show (if day = -1 then (0 : Int32) else 1) = upd (a 6) (z 0) (if 0 ≤ day then 1 else 0) (z 0); rw [pk_us, st]
  · show 0 = upd (a 8) (z 0) 0 (z 0); rw [pk_us]
  · show 0 = upd (a 10) (z 0) 0 (z 0); rw [pk_us]
  · show -1 = upd (a 11) (z 0) (-1) (z 0); rw [pk_us]
  · show -1 = upd (a 12) (z 0) (-1) (z 0); rw [pk_us]
  · show -1 = upd (a 13) (z 0) (-1) (z 0); rw [pk_us]
  · show 0 = upd (a 14) (z 0) 0 (z 0); rw [pk_us]
  · show 0 = upd (a 16) (z 0) 0 (z 0); rw [pk_us]
  · show -1 = upd (a 19) (z 0) (-1) (z 0); rw [pk_us]
  · intro h; exact absurd h n2
  · intro h; exact absurd (show (0 : Int32) ≤ -1 from h) (by decide)
  · intro t ht h
    have h' : nI t < (0 : Int32) := h
    exact absurd h' (nI_pos (by omega))
  · show -1 ≤ day ∧ day ≤ 1000000
    rcases hd with e | e
    · subst e; decide
    · refine ⟨?_, e.2⟩
      have := e.1
      rw [Int32.le_iff_toInt_le, T0] at this
      rw [Int32.le_iff_toInt_le, Tm1]; omega
theorem eq_issue (H : Rl z bo g q pp dd zm a) (pt od day : Int32) : E2 (s_X_issue z bo g q pp dd pt od day) (s_M_issue th zm a pt od day) := by
  have ez := H.1.1
  have body : (0 ≤ pt ∧ pt ≤ 9) → (1 ≤ od ∧ od ≤ 9999) → (day = -1 ∨ (0 ≤ day ∧ day ≤ 1000000)) → E2 (if (lp_has g pt od (z 0) 0) = 0 then (if (nI (z 0)) < 200 then (nI (z 0), va_up z 0 (z 0 + 1), insB bo (insP bo (va_up g (z 0) (recI pt od day 0)) ((va_up g (z 0) (recI pt od day 0)) (z 0) 1) (z 0)) (z 0), va_up g (z 0) (recI pt od day 0), q, va_up pp (z 0) (fun _ => 0), va_up dd (z 0) (fun _ => 0)) else (-4, z, bo, g, q, pp, dd)) else (-3, z, bo, g, q, pp, dd)) (lp_issue 0 zm a pt od day (zm 0) 0) := by
    intro hp ho hd
    rw [← ez, issue_lp H pt od day (z 0) 0 (by omega)]
    by_cases c : lp_has g pt od (z 0) 0 = 0
    · rw [if_pos c, if_pos c, lp_issue, ← ez]
      have z2 := H.1.2.1
      by_cases c2 : z 0 < 200
      · have d1 : nI (z 0) < 200 := by rw [show (200 : Int32) = nI 200 from rfl, nI_ltI (by omega) (by decide)]; exact c2
        have d2 : ¬ nI (z 0) = 200 := by rw [show (200 : Int32) = nI 200 from rfl, nI_eq (by omega) (by decide)]; omega
        rw [if_pos d1, if_neg d2]
        refine ⟨rfl, ?_⟩
        have K := Rl_lay H c2 hp ho hd c
        rw [← ez] at K
        exact K
      · have d1 : ¬ nI (z 0) < 200 := by rw [show (200 : Int32) = nI 200 from rfl, nI_ltI (by omega) (by decide)]; exact c2
        have d2 : nI (z 0) = 200 := by rw [show (200 : Int32) = nI 200 from rfl, nI_eq (by omega) (by decide)]; omega
        rw [if_neg d1, if_pos d2]; exact E2_id H
    · rw [if_neg c, if_neg c]; exact E2_id H
  unfold s_X_issue s_M_issue
  by_cases c1 : 0 ≤ pt ∧ pt ≤ 9
  · by_cases c2 : 1 ≤ od ∧ od ≤ 9999
    · simp only [if_pos c1, if_pos c2]
      by_cases c3 : day = -1
      · rw [if_pos c3, if_pos c3]; exact body c1 c2 (Or.inl c3)
      · rw [if_neg c3, if_neg c3]
        by_cases c4 : 0 ≤ day ∧ day ≤ 1000000
        · rw [if_pos c4, if_pos c4]; exact body c1 c2 (Or.inr c4)
        · rw [if_neg c4, if_neg c4]; exact E2_id H
    · simp only [if_pos c1, if_neg c2]; exact E2_id H
  · simp only [if_neg c1]; exact E2_id H
end EQ
