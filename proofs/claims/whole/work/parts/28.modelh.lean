/-- how many of the first n have an ordinal above x -/
def cntA (f : Nat → Int32) (x : Int32) : Nat → Nat
  | 0 => 0
  | n + 1 => cntA f x n + (if x < f n then 1 else 0)
theorem cntA_le {f : Nat → Int32} {x y : Int32} (h : x ≤ y) : ∀ n, cntA f y n ≤ cntA f x n
  | 0 => Nat.le_refl _
  | n + 1 => by
    have := cntA_le (f := f) h n
    unfold cntA
    by_cases c : y < f n
    · rw [if_pos c, if_pos (Int32.lt_of_le_of_lt h c)]; omega
    · rw [if_neg c]; omega
theorem cntA_lt {f : Nat → Int32} {x : Int32} {j : Nat} (h : x < f j) : ∀ n, j < n → cntA f (f j) n + 1 ≤ cntA f x n
  | 0, hj => absurd hj (by omega)
  | n + 1, hj => by
    unfold cntA
    by_cases e : j = n
    · subst e
      have := cntA_le (f := f) (Int32.le_of_lt h) j
      rw [if_neg Int32.lt_irrefl, if_pos h]; omega
    · have := cntA_lt h n (by omega)
      by_cases c : f j < f n
      · rw [if_pos c, if_pos (Int32.lt_trans h c)]; omega
      · rw [if_neg c]; omega
theorem cntA_n {f : Nat → Int32} {x : Int32} : ∀ n, cntA f x n ≤ n
  | 0 => Nat.le_refl _
  | n + 1 => by
    have := cntA_n (f := f) (x := x) n
    unfold cntA
    split <;> omega
theorem vp_nI {n j : Nat} (h : j < n) (hn : n < 2 ^ 31) : vp_in (nI j) n := vp_in_nI h hn
theorem next_in {a : Nat → Nat → Int32} {pt x : Int32} {n : Nat} (hn : n < 2 ^ 31) : ∀ (k i : Nat) (b : Int32), i + k = n → (b < 0 ∨ (vp_in b n ∧ x < a 5 b.toNatClampNeg ∧ a 4 b.toNatClampNeg = pt ∧ ¬ a 6 b.toNatClampNeg = 6)) → (lp_next a pt x k i b < 0 ∨ (vp_in (lp_next a pt x k i b) n ∧ x < a 5 (lp_next a pt x k i b).toNatClampNeg ∧ a 4 (lp_next a pt x k i b).toNatClampNeg = pt ∧ ¬ a 6 (lp_next a pt x k i b).toNatClampNeg = 6))
  | 0, i, b, _, h => by rw [lp_next]; exact h
  | k + 1, i, b, hi, h => by
    have ih := fun b' hb => next_in (a := a) (pt := pt) (x := x) hn k (i + 1) b' (by omega) hb
    have hc : (nI i).toNatClampNeg = i := nI_clamp (by omega)
    rw [lp_next]
    repeat' split
    all_goals first | exact ih _ h | exact ih _ (Or.inr ⟨vp_nI (by omega) hn, by rw [hc]; assumption, by rw [hc]; assumption, by rw [hc]; assumption⟩)
theorem next_sp {a : Nat → Nat → Int32} {pt x : Int32} {n : Nat} (hn : n < 2 ^ 31) : lp_next a pt x n 0 (-1) < 0 ∨ (vp_in (lp_next a pt x n 0 (-1)) n ∧ x < a 5 (lp_next a pt x n 0 (-1)).toNatClampNeg ∧ a 4 (lp_next a pt x n 0 (-1)).toNatClampNeg = pt ∧ ¬ a 6 (lp_next a pt x n 0 (-1)).toNatClampNeg = 6) := next_in hn n 0 (-1) (by omega) (Or.inl (by decide))
theorem nextHere_in {a : Nat → Nat → Int32} {pt x : Int32} {n : Nat} (hn : n < 2 ^ 31) : ∀ (k i : Nat) (b : Int32), i + k = n → (b < 0 ∨ (vp_in b n ∧ x < a 5 b.toNatClampNeg ∧ a 4 b.toNatClampNeg = pt ∧ a 6 b.toNatClampNeg = 3)) → (lp_nextHere a pt x k i b < 0 ∨ (vp_in (lp_nextHere a pt x k i b) n ∧ x < a 5 (lp_nextHere a pt x k i b).toNatClampNeg ∧ a 4 (lp_nextHere a pt x k i b).toNatClampNeg = pt ∧ a 6 (lp_nextHere a pt x k i b).toNatClampNeg = 3))
  | 0, i, b, _, h => by rw [lp_nextHere]; exact h
  | k + 1, i, b, hi, h => by
    have ih := fun b' hb => nextHere_in (a := a) (pt := pt) (x := x) hn k (i + 1) b' (by omega) hb
    have hc : (nI i).toNatClampNeg = i := nI_clamp (by omega)
    rw [lp_nextHere]
    repeat' split
    all_goals first | exact ih _ h | exact ih _ (Or.inr ⟨vp_nI (by omega) hn, by rw [hc]; assumption, by rw [hc]; assumption, by rw [hc]; assumption⟩)
theorem nextHere_sp {a : Nat → Nat → Int32} {pt x : Int32} {n : Nat} (hn : n < 2 ^ 31) : lp_nextHere a pt x n 0 (-1) < 0 ∨ (vp_in (lp_nextHere a pt x n 0 (-1)) n ∧ x < a 5 (lp_nextHere a pt x n 0 (-1)).toNatClampNeg ∧ a 4 (lp_nextHere a pt x n 0 (-1)).toNatClampNeg = pt ∧ a 6 (lp_nextHere a pt x n 0 (-1)).toNatClampNeg = 3) := nextHere_in hn n 0 (-1) (by omega) (Or.inl (by decide))
theorem c_M_standsI (l : Launch) (D : va_G) (cs : Nat → ClassId) (bk : Nat → Nat) (sz : Nat) (th : Int32) (z : Nat → Nat) (a : Nat → Nat → Int32) (i : Int32) (hi : vp_in i 200) : Met l y_M_stands w_M_stands ({ frames := 0, cells := 0, slots := 0, locals := 0 }) (va_Pc [.ref (bk 0), .int i] (PB D classes (TY cs) 28 bk (MW cs th z a bk) sz)) (vp_Si (fun r => r = bI (a 6 i.toNatClampNeg = 3 ∨ a 6 i.toNatClampNeg = 5))) 0 0 (fun _ => False) := by
  obtain ⟨j, hj, rfl⟩ := vp_in_of hi (by decide)
  rw [nI_clamp (by omega)]
  exact c_M_stands l D cs bk sz th z a j hj
theorem c_M_isHeldI (l : Launch) (D : va_G) (cs : Nat → ClassId) (bk : Nat → Nat) (sz : Nat) (th : Int32) (z : Nat → Nat) (a : Nat → Nat → Int32) (i : Int32) (hi : vp_in i 200) : Met l y_M_isHeld w_M_isHeld ({ frames := 0, cells := 0, slots := 0, locals := 0 }) (va_Pc [.ref (bk 0), .int i] (PB D classes (TY cs) 28 bk (MW cs th z a bk) sz)) (vp_Si (fun r => r = bI (0 ≤ a 19 i.toNatClampNeg ∧ a 19 i.toNatClampNeg < a 16 i.toNatClampNeg))) 0 0 (fun _ => False) := by
  obtain ⟨j, hj, rfl⟩ := vp_in_of hi (by decide)
  rw [nI_clamp (by omega)]
  exact c_M_isHeld l D cs bk sz th z a j hj
theorem vp_mono {i : Int32} {n N : Nat} (h : vp_in i n) (hn : n ≤ N) : vp_in i N := by
  rw [vp_in_iff] at h ⊢; omega
theorem lp_next_cg0 {a a' : Nat → Nat → Int32} {pt x : Int32} (h4 : a' 4 = a 4) (h5 : a' 5 = a 5) (h6 : a' 6 = a 6) : ∀ (k i : Nat) (b : Int32), lp_next a' pt x k i b = lp_next a pt x k i b
  | 0, i, b => rfl
  | k + 1, i, b => by
    rw [lp_next, lp_next, h4, h5, h6]
    simp only [lp_next_cg0 h4 h5 h6 k]
theorem lp_next_cg {a a' : Nat → Nat → Int32} {pt x : Int32} {m n : Nat} (h4 : a' 4 = a 4) (h5 : a' 5 = a 5) (h6 : a' 6 = a 6) (hn : m = n) : lp_next a' pt x m 0 (-1) = lp_next a pt x n 0 (-1) := by
  rw [lp_next_cg0 h4 h5 h6, hn]
theorem lp_nextHere_cg0 {a a' : Nat → Nat → Int32} {pt x : Int32} (h4 : a' 4 = a 4) (h5 : a' 5 = a 5) (h6 : a' 6 = a 6) : ∀ (k i : Nat) (b : Int32), lp_nextHere a' pt x k i b = lp_nextHere a pt x k i b
  | 0, i, b => rfl
  | k + 1, i, b => by
    rw [lp_nextHere, lp_nextHere, h4, h5, h6]
    simp only [lp_nextHere_cg0 h4 h5 h6 k]
theorem lp_nextHere_cg {a a' : Nat → Nat → Int32} {pt x : Int32} {m n : Nat} (h4 : a' 4 = a 4) (h5 : a' 5 = a 5) (h6 : a' 6 = a 6) (hn : m = n) : lp_nextHere a' pt x m 0 (-1) = lp_nextHere a pt x n 0 (-1) := by
  rw [lp_nextHere_cg0 h4 h5 h6, hn]
theorem vp_lt9 {i : Int32} {n : Nat} (h : vp_in i n) : i.toNatClampNeg < n := Nat.not_le.mp fun q => h (Or.inr q)
def lp_mstat (n : Nat) (pt : Int32) : Nat → Int32 → (Nat → Nat) → (Nat → Nat → Int32) → Int32 → Int32 → MS
  | 0, th, z, a, go, i => (nI (z 3), th, z, a)
  | k + 1, th, z, a, go, i => (if i < 0 then (nI (z 3), th, z, a) else (if (a 6) i.toNatClampNeg = 3 ∨ (a 6) i.toNatClampNeg = 5 then (if go = 0 then (lp_mstat n pt k th (va_up z 3 ((z 3) + 1)) (va_up (va_up (va_up a 23 (upd (a 23) (z 3) ((a 5) (i).toNatClampNeg))) 24 (upd (a 24) (z 3) ((a 5) (i).toNatClampNeg))) 25 (upd (a 25) (z 3) (1))) (bI ((a 6) i.toNatClampNeg = 3 ∨ (a 6) i.toNatClampNeg = 5)) (lp_next a pt ((a 5) (i).toNatClampNeg) n 0 (-1))) else (lp_mstat n pt k th z (va_up (va_up a 24 (upd (a 24) (z 3 - 1) ((a 5) (i).toNatClampNeg))) 25 (upd (a 25) (z 3 - 1) (((a 25) (z 3 - 1)) + 1))) (bI ((a 6) i.toNatClampNeg = 3 ∨ (a 6) i.toNatClampNeg = 5)) (lp_next a pt ((a 5) (i).toNatClampNeg) n 0 (-1)))) else (lp_mstat n pt k th z a (bI ((a 6) i.toNatClampNeg = 3 ∨ (a 6) i.toNatClampNeg = 5)) (lp_next a pt ((a 5) (i).toNatClampNeg) n 0 (-1)))))
set_option maxHeartbeats 4000000 in
set_option maxRecDepth 100000 in
theorem l_M_statement {p_ : Program} {l : Launch} {e_ : Env} {s : State} {m : MethodId} {below_ : List Frame} {meth_ : Method} {c_ : Code} {D : va_G} {cs : Nat → ClassId} {bk : Nat → Nat} {sz : Nat} (n : Nat) (hn : n ≤ 200) (pt : Int32) (R : MS) (hx : p_.tables.exec = Jvm.exec) (hb : c_.code = b_M_statement) (hr : meth_.sig.returnType = (some .int)) (hml : c_.maxLocals = 4) (hw : ∀ w ∈ WA, w.before ([.ref (bk (0)), .int (pt)] : List Value).toArray s = true) (hown : s.vm.findClass "IssueRowsModel" = some m.cls) (hlocks : meth_.locks = false) (hA : ∀ q, s.heap.size ≤ q → AA 28 bk sz q) (hN : NN s) (hK : va_K D classes (TY cs) s) : ∀ (k : Nat) (th : Int32) (z : Nat → Nat) (a : Nat → Nat → Int32) (go : Int32) (i : Int32), (i < 0 ∨ (9999 : Int) < (a 5 i.toNatClampNeg).toInt + (k : Nat)) → (z 0 = n) → (i < 0 ∨ (vp_in i n ∧ z 3 + 1 + cntA (a 5) (a 5 i.toNatClampNeg) n ≤ n)) → (¬ go = 0 → 0 < z 3) → (∀ j, j < n → 1 ≤ a 5 j ∧ a 5 j ≤ 9999) → (R = lp_mstat n pt k th z a go i) → ∀ (H : Heap) (locs : List Loc) (ls : Array Slot), va_P D classes (wl 28 bk (MW cs th z a bk)) H → va_D (AA 28 bk sz) (wl 28 bk (MW cs th z a bk)) → va_S (AA 28 bk sz) s.heap H locs → lv_has ls 4 [(0, .ref (bk (0))), (1, .int (pt)), (2, .int (go)), (3, .int (i))] → W p_ l e_ ({ frames := 1, cells := 0, slots := 0, locals := 24 }) s m ([.ref (bk (0)), .int (pt)] : List Value).toArray below_ meth_ c_ H locs 0 0 (MQ below_ (va_Qi (Mr cs bk R) (Wd D classes (TY cs) (AA 28 bk sz)) (AA 28 bk sz)) ([.ref (bk (0)), .int (pt)] : List Value).toArray s 0 0 (AA 28 bk sz)) (F0 m 31 ls []) := by
  intro k
  induction k with
  | zero =>
    intro th z a go i hf hz0 hi hgo ho hR H locs ls hP hD hS hl
    refine lv_iload_n hx hb d_M_statement_31 rfl (lv_at hl 3 rfl) ?_
    refine lv_if_lt (tgt := 161) hx hb d_M_statement_32 (by decide) (fun c_1 => ?_) (fun c_1 => ?_)
    · have c_1 : i < 0 := c_1
      refine lv_aload_n hx hb d_M_statement_161 rfl (lv_at hl 0 rfl) ?_
      refine pw_get (ci := 7) (v := .int (nI (z 3))) hx hb hw i_M hown hK hP (0) (by decide) rfl rfl 26 (by decide) (hw _ kF_M_138) rfl d_M_statement_162 ?_
      exact W.iret (v := nI (z 3)) hx hb hr (fun t ht hW => ⟨⟨nI (z 3), (28, bk, MW cs th z a bk), rfl, Mr_of (by rw [hR, lp_mstat]), by rw [ht]; exact hP, va_K.moved hW.alike hK, hD⟩, hS.F ht⟩) hS.2.2 d_M_statement_165
    · have c_1 : ¬ i < 0 := c_1
      exact absurd (hf.elim id (fun h9 => absurd h9 (by have h8 := hi.elim (fun q => absurd q c_1) (fun q => (ho _ (vp_lt9 q.1)).2); rw [Int32.le_iff_toInt_le, T9999] at h8; omega))) c_1
  | succ k ih =>
    intro th z a go i hf hz0 hi hgo ho hR H locs ls hP hD hS hl
    refine lv_iload_n hx hb d_M_statement_31 rfl (lv_at hl 3 rfl) ?_
    refine lv_if_lt (tgt := 161) hx hb d_M_statement_32 (by decide) (fun c_101 => ?_) (fun c_101 => ?_)
    · have c_101 : i < 0 := c_101
      refine lv_aload_n hx hb d_M_statement_161 rfl (lv_at hl 0 rfl) ?_
      refine pw_get (ci := 7) (v := .int (nI (z 3))) hx hb hw i_M hown hK hP (0) (by decide) rfl rfl 26 (by decide) (hw _ kF_M_138) rfl d_M_statement_162 ?_
      exact W.iret (v := nI (z 3)) hx hb hr (fun t ht hW => ⟨⟨nI (z 3), (28, bk, MW cs th z a bk), rfl, Mr_of (by rw [hR, lp_mstat, if_pos c_101]), by rw [ht]; exact hP, va_K.moved hW.alike hK, hD⟩, hS.F ht⟩) hS.2.2 d_M_statement_165
    · have c_101 : ¬ i < 0 := c_101
      have hv := (hi.elim (fun q => absurd q c_101) (fun q => q.1) : vp_in i n)
      have hr3 := (hi.elim (fun q => absurd q c_101) (fun q => q.2) : z 3 + 1 + cntA (a 5) (a 5 i.toNatClampNeg) n ≤ n)
      have hf3 := (hf.elim (fun q => absurd q c_101) (fun q => q) : (9999 : Int) < (a 5 i.toNatClampNeg).toInt + (k + 1 : Nat))
      refine lv_aload_n hx hb d_M_statement_35 rfl (lv_at hl 0 rfl) ?_
      refine lv_iload_n hx hb d_M_statement_36 rfl (lv_at hl 3 rfl) ?_
      refine pw_callSi (va_runV (As := [.int (i)]) (rest := []) ⟨hx, hb, hml, hown, hw⟩ (c_M_standsI l D cs bk H.size th z a i (vp_mono hv hn)) (cw_V 1 hw kM_M_144 kI_M_stands kV_M_stands kZ_M kC_M_stands rfl rfl ⟨rfl, by decide, by decide, by decide +kernel⟩ ⟨Nat.le_of_ble_eq_true rfl, Nat.le_of_ble_eq_true rfl⟩) (pw_preV hN hK hP hD (0) (by decide) rfl rfl) rfl rfl hl.1 rfl (lv_room (Nat.le_of_ble_eq_true rfl)) d_M_statement_37 ⟨Nat.le_of_ble_eq_true rfl, Nat.le_of_ble_eq_true rfl⟩) (fun r_102 hr_102 => ?_)
      have hr_102 : r_102 = bI ((a 6) i.toNatClampNeg = 3 ∨ (a 6) i.toNatClampNeg = 5) := hr_102
      subst hr_102
      refine pw_ifeq (tgt := 82) hx hb d_M_statement_40 (by decide) (fun c_103 => ?_) (fun c_103 => ?_)
      · have c_103 : ¬ ((a 6) i.toNatClampNeg = 3 ∨ (a 6) i.toNatClampNeg = 5) := c_103
        refine lv_aload_n hx hb d_M_statement_82 rfl (lv_at hl 0 rfl) ?_
        refine lv_iload_n hx hb d_M_statement_83 rfl (lv_at hl 3 rfl) ?_
        refine pw_callSi (va_runV (As := [.int (i)]) (rest := []) ⟨hx, hb, hml, hown, hw⟩ (c_M_standsI l D cs bk H.size th z a i (vp_mono hv hn)) (cw_V 1 hw kM_M_144 kI_M_stands kV_M_stands kZ_M kC_M_stands rfl rfl ⟨rfl, by decide, by decide, by decide +kernel⟩ ⟨Nat.le_of_ble_eq_true rfl, Nat.le_of_ble_eq_true rfl⟩) (pw_preV hN hK hP hD (0) (by decide) rfl rfl) rfl rfl hl.1 rfl (lv_room (Nat.le_of_ble_eq_true rfl)) d_M_statement_84 ⟨Nat.le_of_ble_eq_true rfl, Nat.le_of_ble_eq_true rfl⟩) (fun r_104 hr_104 => ?_)
        have hr_104 : r_104 = bI ((a 6) i.toNatClampNeg = 3 ∨ (a 6) i.toNatClampNeg = 5) := hr_104
        subst hr_104
        refine pw_ifeq (tgt := 140) hx hb d_M_statement_87 (by decide) (fun c_105 => ?_) (fun c_105 => ?_)
        · have c_105 : ¬ ((a 6) i.toNatClampNeg = 3 ∨ (a 6) i.toNatClampNeg = 5) := c_105
          refine lv_aload_n hx hb d_M_statement_140 rfl (lv_at hl 0 rfl) ?_
          refine lv_iload_n hx hb d_M_statement_141 rfl (lv_at hl 3 rfl) ?_
          refine pw_callSi (va_runV (As := [.int (i)]) (rest := []) ⟨hx, hb, hml, hown, hw⟩ (c_M_standsI l D cs bk H.size th z a i (vp_mono hv hn)) (cw_V 1 hw kM_M_144 kI_M_stands kV_M_stands kZ_M kC_M_stands rfl rfl ⟨rfl, by decide, by decide, by decide +kernel⟩ ⟨Nat.le_of_ble_eq_true rfl, Nat.le_of_ble_eq_true rfl⟩) (pw_preV hN hK hP hD (0) (by decide) rfl rfl) rfl rfl hl.1 rfl (lv_room (Nat.le_of_ble_eq_true rfl)) d_M_statement_142 ⟨Nat.le_of_ble_eq_true rfl, Nat.le_of_ble_eq_true rfl⟩) (fun r_106 hr_106 => ?_)
          have hr_106 : r_106 = bI ((a 6) i.toNatClampNeg = 3 ∨ (a 6) i.toNatClampNeg = 5) := hr_106
          subst hr_106
          refine lv_istore_n (lv' := [(2, .int (bI ((a 6) i.toNatClampNeg = 3 ∨ (a 6) i.toNatClampNeg = 5))), (0, .ref (bk (0))), (1, .int (pt)), (3, .int (i))]) hx hb d_M_statement_145 rfl hl (by decide) rfl (fun ls hl => ?_)
          refine lv_aload_n hx hb d_M_statement_146 rfl (lv_at hl 1 rfl) ?_
          refine lv_iload_n hx hb d_M_statement_147 rfl (lv_at hl 2 rfl) ?_
          refine lv_aload_n hx hb d_M_statement_148 rfl (lv_at hl 1 rfl) ?_
          refine pw_get (ci := 7) (v := .ref (bk (5))) hx hb hw i_M hown hK hP (0) (by decide) rfl rfl 6 (by decide) (hw _ kF_M_22) rfl d_M_statement_149 ?_
          refine lv_iload_n hx hb d_M_statement_152 rfl (lv_at hl 3 rfl) ?_
          refine pw_ialdC (n := 200) (f := (a 5)) hx hb hK hP 0 (5) (by decide) rfl rfl (vp_mono hv hn) d_M_statement_153 ?_
          refine pw_callSi (va_runV (As := [.int (pt), .int ((a 5) (i).toNatClampNeg)]) (rest := []) ⟨hx, hb, hml, hown, hw⟩ (c_M_next l D cs bk H.size th z a (by show z 0 ≤ 200; omega) pt ((a 5) (i).toNatClampNeg)) (cw_V 2 hw kM_M_141 kI_M_next kV_M_next kZ_M kC_M_next rfl rfl ⟨rfl, by decide, by decide, by decide +kernel⟩ ⟨Nat.le_of_ble_eq_true rfl, Nat.le_of_ble_eq_true rfl⟩) (pw_preV hN hK hP hD (0) (by decide) rfl rfl) rfl rfl hl.1 rfl (lv_room (Nat.le_of_ble_eq_true rfl)) d_M_statement_154 ⟨Nat.le_of_ble_eq_true rfl, Nat.le_of_ble_eq_true rfl⟩) (fun r_107 hr_107 => ?_)
          have hr_107 : r_107 = lp_next a pt ((a 5) (i).toNatClampNeg) n 0 (-1) := hr_107.trans (lp_next_cg rfl rfl rfl hz0)
          subst hr_107
          refine lv_istore_n (lv' := [(3, .int (lp_next a pt ((a 5) (i).toNatClampNeg) n 0 (-1))), (2, .int (bI ((a 6) i.toNatClampNeg = 3 ∨ (a 6) i.toNatClampNeg = 5))), (0, .ref (bk (0))), (1, .int (pt))]) hx hb d_M_statement_157 rfl hl (by decide) rfl (fun ls hl => ?_)
          refine lv_goto (tgt := 31) hx hb d_M_statement_158 (by decide) ?_
          exact ih th z a (bI ((a 6) i.toNatClampNeg = 3 ∨ (a 6) i.toNatClampNeg = 5)) (lp_next a pt ((a 5) (i).toNatClampNeg) n 0 (-1)) ((next_sp (a := a) (pt := pt) (x := a 5 i.toNatClampNeg) (n := n) (by omega)).imp id (fun q => by have h8 := q.2.1; rw [Int32.lt_iff_toInt_lt] at h8; show (9999 : Int) < (a 5 _).toInt + (k : Nat); omega)) hz0 ((next_sp (a := a) (pt := pt) (x := a 5 i.toNatClampNeg) (n := n) (by omega)).imp id (fun q => ⟨q.1, by have h8 := cntA_lt (f := a 5) q.2.1 n (vp_lt9 q.1); show z 3 + 1 + cntA (a 5) (a 5 _) n ≤ n; omega⟩)) (fun q => absurd (bI_f c_103) q) ho (by rw [hR, lp_mstat, if_neg c_101, if_neg c_103]) _ _ _ hP hD hS (lv_sub hl [2, 3, 1, 0] rfl)
        · have c_105 : (a 6) i.toNatClampNeg = 3 ∨ (a 6) i.toNatClampNeg = 5 := c_105
          exact absurd c_105 c_103
      · have c_103 : (a 6) i.toNatClampNeg = 3 ∨ (a 6) i.toNatClampNeg = 5 := c_103
        refine lv_iload_n hx hb d_M_statement_43 rfl (lv_at hl 2 rfl) ?_
        refine lv_if_eq (tgt := 82) hx hb d_M_statement_44 (by decide) (fun c_108 => ?_) (fun c_108 => ?_)
        · have c_108 : go = 0 := c_108
          refine lv_aload_n hx hb d_M_statement_82 rfl (lv_at hl 0 rfl) ?_
          refine lv_iload_n hx hb d_M_statement_83 rfl (lv_at hl 3 rfl) ?_
          refine pw_callSi (va_runV (As := [.int (i)]) (rest := []) ⟨hx, hb, hml, hown, hw⟩ (c_M_standsI l D cs bk H.size th z a i (vp_mono hv hn)) (cw_V 1 hw kM_M_144 kI_M_stands kV_M_stands kZ_M kC_M_stands rfl rfl ⟨rfl, by decide, by decide, by decide +kernel⟩ ⟨Nat.le_of_ble_eq_true rfl, Nat.le_of_ble_eq_true rfl⟩) (pw_preV hN hK hP hD (0) (by decide) rfl rfl) rfl rfl hl.1 rfl (lv_room (Nat.le_of_ble_eq_true rfl)) d_M_statement_84 ⟨Nat.le_of_ble_eq_true rfl, Nat.le_of_ble_eq_true rfl⟩) (fun r_109 hr_109 => ?_)
          have hr_109 : r_109 = bI ((a 6) i.toNatClampNeg = 3 ∨ (a 6) i.toNatClampNeg = 5) := hr_109
          subst hr_109
          refine pw_ifeq (tgt := 140) hx hb d_M_statement_87 (by decide) (fun c_110 => ?_) (fun c_110 => ?_)
          · have c_110 : ¬ ((a 6) i.toNatClampNeg = 3 ∨ (a 6) i.toNatClampNeg = 5) := c_110
            exact absurd c_103 c_110
          · have c_110 : (a 6) i.toNatClampNeg = 3 ∨ (a 6) i.toNatClampNeg = 5 := c_110
            refine lv_aload_n hx hb d_M_statement_90 rfl (lv_at hl 0 rfl) ?_
            refine pw_get (ci := 7) (v := .ref (bk (23))) hx hb hw i_M hown hK hP (0) (by decide) rfl rfl 27 (by decide) (hw _ kF_M_77) rfl d_M_statement_91 ?_
            refine lv_aload_n hx hb d_M_statement_94 rfl (lv_at hl 0 rfl) ?_
            refine pw_get (ci := 7) (v := .int (nI (z 3))) hx hb hw i_M hown hK hP (0) (by decide) rfl rfl 26 (by decide) (hw _ kF_M_138) rfl d_M_statement_95 ?_
            refine lv_aload_n hx hb d_M_statement_98 rfl (lv_at hl 0 rfl) ?_
            refine pw_get (ci := 7) (v := .ref (bk (5))) hx hb hw i_M hown hK hP (0) (by decide) rfl rfl 6 (by decide) (hw _ kF_M_22) rfl d_M_statement_99 ?_
            refine lv_iload_n hx hb d_M_statement_102 rfl (lv_at hl 3 rfl) ?_
            refine pw_ialdC (n := 200) (f := (a 5)) hx hb hK hP 0 (5) (by decide) rfl rfl (vp_mono hv hn) d_M_statement_103 ?_
            refine pw_iast (n := 200) (f := (a 23)) hx hb hK hP hD hS 0 (23) (by decide) rfl rfl (z 3) rfl (by omega) (by decide) d_M_statement_104 (fun cw_111 H locs ecw_111 hP hD hS => ?_)
            obtain rfl : cw_111 = MW cs th z (va_up a 23 (upd (a 23) (z 3) ((a 5) (i).toNatClampNeg))) bk := by rw [ecw_111]; exact MW_arr 23 (by decide) (upd (a 23) (z 3) ((a 5) (i).toNatClampNeg))
            refine lv_aload_n hx hb d_M_statement_105 rfl (lv_at hl 0 rfl) ?_
            refine pw_get (ci := 7) (v := .ref (bk (24))) hx hb hw i_M hown hK hP (0) (by decide) rfl rfl 28 (by decide) (hw _ kF_M_80) rfl d_M_statement_106 ?_
            refine lv_aload_n hx hb d_M_statement_109 rfl (lv_at hl 0 rfl) ?_
            refine pw_get (ci := 7) (v := .int (nI (z 3))) hx hb hw i_M hown hK hP (0) (by decide) rfl rfl 26 (by decide) (hw _ kF_M_138) rfl d_M_statement_110 ?_
            refine lv_aload_n hx hb d_M_statement_113 rfl (lv_at hl 0 rfl) ?_
            refine pw_get (ci := 7) (v := .ref (bk (5))) hx hb hw i_M hown hK hP (0) (by decide) rfl rfl 6 (by decide) (hw _ kF_M_22) rfl d_M_statement_114 ?_
            refine lv_iload_n hx hb d_M_statement_117 rfl (lv_at hl 3 rfl) ?_
            refine pw_ialdC (n := 200) (f := (a 5)) hx hb hK hP 0 (5) (by decide) rfl rfl (vp_mono hv hn) d_M_statement_118 ?_
            refine pw_iast (n := 200) (f := (a 24)) hx hb hK hP hD hS 0 (24) (by decide) rfl rfl (z 3) rfl (by omega) (by decide) d_M_statement_119 (fun cw_112 H locs ecw_112 hP hD hS => ?_)
            obtain rfl : cw_112 = MW cs th z (va_up (va_up a 23 (upd (a 23) (z 3) ((a 5) (i).toNatClampNeg))) 24 (upd (a 24) (z 3) ((a 5) (i).toNatClampNeg))) bk := by rw [ecw_112]; exact MW_arr 24 (by decide) (upd (a 24) (z 3) ((a 5) (i).toNatClampNeg))
            refine lv_aload_n hx hb d_M_statement_120 rfl (lv_at hl 0 rfl) ?_
            refine pw_get (ci := 7) (v := .ref (bk (25))) hx hb hw i_M hown hK hP (0) (by decide) rfl rfl 29 (by decide) (hw _ kF_M_83) rfl d_M_statement_121 ?_
            refine lv_aload_n hx hb d_M_statement_124 rfl (lv_at hl 0 rfl) ?_
            refine pw_get (ci := 7) (v := .int (nI (z 3))) hx hb hw i_M hown hK hP (0) (by decide) rfl rfl 26 (by decide) (hw _ kF_M_138) rfl d_M_statement_125 ?_
            refine lv_iconst (v := 1) hx hb d_M_statement_128 (by decide) ?_
            refine pw_iast (n := 200) (f := (a 25)) hx hb hK hP hD hS 0 (25) (by decide) rfl rfl (z 3) rfl (by omega) (by decide) d_M_statement_129 (fun cw_113 H locs ecw_113 hP hD hS => ?_)
            obtain rfl : cw_113 = MW cs th z (va_up (va_up (va_up a 23 (upd (a 23) (z 3) ((a 5) (i).toNatClampNeg))) 24 (upd (a 24) (z 3) ((a 5) (i).toNatClampNeg))) 25 (upd (a 25) (z 3) (1))) bk := by rw [ecw_113]; exact MW_arr 25 (by decide) (upd (a 25) (z 3) (1))
            refine lv_aload_n hx hb d_M_statement_130 rfl (lv_at hl 0 rfl) ?_
            refine lv_dup hx hb d_M_statement_131 rfl ?_
            refine pw_get (ci := 7) (v := .int (nI (z 3))) hx hb hw i_M hown hK hP (0) (by decide) rfl rfl 26 (by decide) (hw _ kF_M_138) rfl d_M_statement_132 ?_
            refine lv_iconst (v := 1) hx hb d_M_statement_135 (by decide) ?_
            refine lv_iadd hx hb d_M_statement_136 ?_
            rw [show (nI (z 3)) + 1 = nI ((z 3) + 1) from nI_1 _]
            refine pw_put (ci := 7) (v := .int (nI ((z 3) + 1))) (ty := .int) (fs' := [.int (th), .ref (bk (1)), .ref (bk (2)), .ref (bk (3)), .int (nI (z 0)), .ref (bk (4)), .ref (bk (5)), .ref (bk (6)), .ref (bk (7)), .ref (bk (8)), .ref (bk (9)), .ref (bk (10)), .ref (bk (11)), .ref (bk (12)), .ref (bk (13)), .ref (bk (14)), .ref (bk (15)), .ref (bk (16)), .ref (bk (17)), .ref (bk (18)), .ref (bk (19)), .ref (bk (20)), .int (nI (z 1)), .ref (bk (21)), .ref (bk (22)), .int (nI (z 2)), .int (nI ((z 3) + 1)), .ref (bk (23)), .ref (bk (24)), .ref (bk (25)), .int (nI (z 4)), .ref (bk (26)), .ref (bk (27))]) hx hb hw i_M t_M t_M_ok n_M hown hK hP hD hS (0) (by decide) rfl rfl 26 (by decide) (hw _ kF_M_138) rfl (t_M_ok 26 (by decide)) rfl rfl (Nat.le_of_ble_eq_true rfl) rfl d_M_statement_137 (fun cw_114 H locs ecw_114 hP hD hS => ?_)
            obtain rfl : cw_114 = MW cs th (va_up z 3 ((z 3) + 1)) (va_up (va_up (va_up a 23 (upd (a 23) (z 3) ((a 5) (i).toNatClampNeg))) 24 (upd (a 24) (z 3) ((a 5) (i).toNatClampNeg))) 25 (upd (a 25) (z 3) (1))) bk := by rw [ecw_114]; exact MW_obj th (va_up z 3 ((z 3) + 1))
            refine lv_aload_n hx hb d_M_statement_140 rfl (lv_at hl 0 rfl) ?_
            refine lv_iload_n hx hb d_M_statement_141 rfl (lv_at hl 3 rfl) ?_
            refine pw_callSi (va_runV (As := [.int (i)]) (rest := []) ⟨hx, hb, hml, hown, hw⟩ (c_M_standsI l D cs bk H.size th (va_up z 3 ((z 3) + 1)) (va_up (va_up (va_up a 23 (upd (a 23) (z 3) ((a 5) (i).toNatClampNeg))) 24 (upd (a 24) (z 3) ((a 5) (i).toNatClampNeg))) 25 (upd (a 25) (z 3) (1))) i (vp_mono hv hn)) (cw_V 1 hw kM_M_144 kI_M_stands kV_M_stands kZ_M kC_M_stands rfl rfl ⟨rfl, by decide, by decide, by decide +kernel⟩ ⟨Nat.le_of_ble_eq_true rfl, Nat.le_of_ble_eq_true rfl⟩) (pw_preV hN hK hP hD (0) (by decide) rfl rfl) rfl rfl hl.1 rfl (lv_room (Nat.le_of_ble_eq_true rfl)) d_M_statement_142 ⟨Nat.le_of_ble_eq_true rfl, Nat.le_of_ble_eq_true rfl⟩) (fun r_115 hr_115 => ?_)
            have hr_115 : r_115 = bI ((a 6) i.toNatClampNeg = 3 ∨ (a 6) i.toNatClampNeg = 5) := hr_115
            subst hr_115
            refine lv_istore_n (lv' := [(2, .int (bI ((a 6) i.toNatClampNeg = 3 ∨ (a 6) i.toNatClampNeg = 5))), (0, .ref (bk (0))), (1, .int (pt)), (3, .int (i))]) hx hb d_M_statement_145 rfl hl (by decide) rfl (fun ls hl => ?_)
            refine lv_aload_n hx hb d_M_statement_146 rfl (lv_at hl 1 rfl) ?_
            refine lv_iload_n hx hb d_M_statement_147 rfl (lv_at hl 2 rfl) ?_
            refine lv_aload_n hx hb d_M_statement_148 rfl (lv_at hl 1 rfl) ?_
            refine pw_get (ci := 7) (v := .ref (bk (5))) hx hb hw i_M hown hK hP (0) (by decide) rfl rfl 6 (by decide) (hw _ kF_M_22) rfl d_M_statement_149 ?_
            refine lv_iload_n hx hb d_M_statement_152 rfl (lv_at hl 3 rfl) ?_
            refine pw_ialdC (n := 200) (f := (a 5)) hx hb hK hP 0 (5) (by decide) rfl rfl (vp_mono hv hn) d_M_statement_153 ?_
            refine pw_callSi (va_runV (As := [.int (pt), .int ((a 5) (i).toNatClampNeg)]) (rest := []) ⟨hx, hb, hml, hown, hw⟩ (c_M_next l D cs bk H.size th (va_up z 3 ((z 3) + 1)) (va_up (va_up (va_up a 23 (upd (a 23) (z 3) ((a 5) (i).toNatClampNeg))) 24 (upd (a 24) (z 3) ((a 5) (i).toNatClampNeg))) 25 (upd (a 25) (z 3) (1))) (by show z 0 ≤ 200; omega) pt ((a 5) (i).toNatClampNeg)) (cw_V 2 hw kM_M_141 kI_M_next kV_M_next kZ_M kC_M_next rfl rfl ⟨rfl, by decide, by decide, by decide +kernel⟩ ⟨Nat.le_of_ble_eq_true rfl, Nat.le_of_ble_eq_true rfl⟩) (pw_preV hN hK hP hD (0) (by decide) rfl rfl) rfl rfl hl.1 rfl (lv_room (Nat.le_of_ble_eq_true rfl)) d_M_statement_154 ⟨Nat.le_of_ble_eq_true rfl, Nat.le_of_ble_eq_true rfl⟩) (fun r_116 hr_116 => ?_)
            have hr_116 : r_116 = lp_next a pt ((a 5) (i).toNatClampNeg) n 0 (-1) := hr_116.trans (lp_next_cg rfl rfl rfl hz0)
            subst hr_116
            refine lv_istore_n (lv' := [(3, .int (lp_next a pt ((a 5) (i).toNatClampNeg) n 0 (-1))), (2, .int (bI ((a 6) i.toNatClampNeg = 3 ∨ (a 6) i.toNatClampNeg = 5))), (0, .ref (bk (0))), (1, .int (pt))]) hx hb d_M_statement_157 rfl hl (by decide) rfl (fun ls hl => ?_)
            refine lv_goto (tgt := 31) hx hb d_M_statement_158 (by decide) ?_
            exact ih th (va_up z 3 ((z 3) + 1)) (va_up (va_up (va_up a 23 (upd (a 23) (z 3) ((a 5) (i).toNatClampNeg))) 24 (upd (a 24) (z 3) ((a 5) (i).toNatClampNeg))) 25 (upd (a 25) (z 3) (1))) (bI ((a 6) i.toNatClampNeg = 3 ∨ (a 6) i.toNatClampNeg = 5)) (lp_next a pt ((a 5) (i).toNatClampNeg) n 0 (-1)) ((next_sp (a := a) (pt := pt) (x := a 5 i.toNatClampNeg) (n := n) (by omega)).imp id (fun q => by have h8 := q.2.1; rw [Int32.lt_iff_toInt_lt] at h8; show (9999 : Int) < (a 5 _).toInt + (k : Nat); omega)) hz0 ((next_sp (a := a) (pt := pt) (x := a 5 i.toNatClampNeg) (n := n) (by omega)).imp id (fun q => ⟨q.1, by have h8 := cntA_lt (f := a 5) q.2.1 n (vp_lt9 q.1); show (z 3) + 1 + 1 + cntA (a 5) (a 5 _) n ≤ n; omega⟩)) (fun _ => Nat.succ_pos _) ho (by rw [hR, lp_mstat, if_neg c_101, if_pos c_103, if_pos c_108]) _ _ _ hP hD hS (lv_sub hl [2, 3, 1, 0] rfl)
        · have c_108 : ¬ go = 0 := c_108
          refine lv_aload_n hx hb d_M_statement_47 rfl (lv_at hl 0 rfl) ?_
          refine pw_get (ci := 7) (v := .ref (bk (24))) hx hb hw i_M hown hK hP (0) (by decide) rfl rfl 28 (by decide) (hw _ kF_M_80) rfl d_M_statement_48 ?_
          refine lv_aload_n hx hb d_M_statement_51 rfl (lv_at hl 0 rfl) ?_
          refine pw_get (ci := 7) (v := .int (nI (z 3))) hx hb hw i_M hown hK hP (0) (by decide) rfl rfl 26 (by decide) (hw _ kF_M_138) rfl d_M_statement_52 ?_
          refine lv_iconst (v := 1) hx hb d_M_statement_55 (by decide) ?_
          refine lv_isub hx hb d_M_statement_56 ?_
          rw [show (nI (z 3)) - 1 = nI (z 3 - 1) from pk_sub (a := z 3) (b := 1) (hgo c_108)]
          refine lv_aload_n hx hb d_M_statement_57 rfl (lv_at hl 0 rfl) ?_
          refine pw_get (ci := 7) (v := .ref (bk (5))) hx hb hw i_M hown hK hP (0) (by decide) rfl rfl 6 (by decide) (hw _ kF_M_22) rfl d_M_statement_58 ?_
          refine lv_iload_n hx hb d_M_statement_61 rfl (lv_at hl 3 rfl) ?_
          refine pw_ialdC (n := 200) (f := (a 5)) hx hb hK hP 0 (5) (by decide) rfl rfl (vp_mono hv hn) d_M_statement_62 ?_
          refine pw_iast (n := 200) (f := (a 24)) hx hb hK hP hD hS 0 (24) (by decide) rfl rfl (z 3 - 1) rfl (by omega) (by decide) d_M_statement_63 (fun cw_117 H locs ecw_117 hP hD hS => ?_)
          obtain rfl : cw_117 = MW cs th z (va_up a 24 (upd (a 24) (z 3 - 1) ((a 5) (i).toNatClampNeg))) bk := by rw [ecw_117]; exact MW_arr 24 (by decide) (upd (a 24) (z 3 - 1) ((a 5) (i).toNatClampNeg))
          refine lv_aload_n hx hb d_M_statement_64 rfl (lv_at hl 0 rfl) ?_
          refine pw_get (ci := 7) (v := .ref (bk (25))) hx hb hw i_M hown hK hP (0) (by decide) rfl rfl 29 (by decide) (hw _ kF_M_83) rfl d_M_statement_65 ?_
          refine lv_aload_n hx hb d_M_statement_68 rfl (lv_at hl 0 rfl) ?_
          refine pw_get (ci := 7) (v := .int (nI (z 3))) hx hb hw i_M hown hK hP (0) (by decide) rfl rfl 26 (by decide) (hw _ kF_M_138) rfl d_M_statement_69 ?_
          refine lv_iconst (v := 1) hx hb d_M_statement_72 (by decide) ?_
          refine lv_isub hx hb d_M_statement_73 ?_
          rw [show (nI (z 3)) - 1 = nI (z 3 - 1) from pk_sub (a := z 3) (b := 1) (hgo c_108)]
          refine lv_dup2_11 hx hb d_M_statement_74 rfl rfl ?_
          refine pw_iald (n := 200) (f := (a 25)) hx hb hK hP 0 (25) (by decide) rfl rfl (z 3 - 1) rfl (by omega) (by decide) d_M_statement_75 ?_
          refine lv_iconst (v := 1) hx hb d_M_statement_76 (by decide) ?_
          refine lv_iadd hx hb d_M_statement_77 ?_
          refine pw_iast (n := 200) (f := (a 25)) hx hb hK hP hD hS 0 (25) (by decide) rfl rfl (z 3 - 1) rfl (by omega) (by decide) d_M_statement_78 (fun cw_118 H locs ecw_118 hP hD hS => ?_)
          obtain rfl : cw_118 = MW cs th z (va_up (va_up a 24 (upd (a 24) (z 3 - 1) ((a 5) (i).toNatClampNeg))) 25 (upd (a 25) (z 3 - 1) (((a 25) (z 3 - 1)) + 1))) bk := by rw [ecw_118]; exact MW_arr 25 (by decide) (upd (a 25) (z 3 - 1) (((a 25) (z 3 - 1)) + 1))
          refine lv_goto (tgt := 140) hx hb d_M_statement_79 (by decide) ?_
          refine lv_aload_n hx hb d_M_statement_140 rfl (lv_at hl 0 rfl) ?_
          refine lv_iload_n hx hb d_M_statement_141 rfl (lv_at hl 3 rfl) ?_
          refine pw_callSi (va_runV (As := [.int (i)]) (rest := []) ⟨hx, hb, hml, hown, hw⟩ (c_M_standsI l D cs bk H.size th z (va_up (va_up a 24 (upd (a 24) (z 3 - 1) ((a 5) (i).toNatClampNeg))) 25 (upd (a 25) (z 3 - 1) (((a 25) (z 3 - 1)) + 1))) i (vp_mono hv hn)) (cw_V 1 hw kM_M_144 kI_M_stands kV_M_stands kZ_M kC_M_stands rfl rfl ⟨rfl, by decide, by decide, by decide +kernel⟩ ⟨Nat.le_of_ble_eq_true rfl, Nat.le_of_ble_eq_true rfl⟩) (pw_preV hN hK hP hD (0) (by decide) rfl rfl) rfl rfl hl.1 rfl (lv_room (Nat.le_of_ble_eq_true rfl)) d_M_statement_142 ⟨Nat.le_of_ble_eq_true rfl, Nat.le_of_ble_eq_true rfl⟩) (fun r_119 hr_119 => ?_)
          have hr_119 : r_119 = bI ((a 6) i.toNatClampNeg = 3 ∨ (a 6) i.toNatClampNeg = 5) := hr_119
          subst hr_119
          refine lv_istore_n (lv' := [(2, .int (bI ((a 6) i.toNatClampNeg = 3 ∨ (a 6) i.toNatClampNeg = 5))), (0, .ref (bk (0))), (1, .int (pt)), (3, .int (i))]) hx hb d_M_statement_145 rfl hl (by decide) rfl (fun ls hl => ?_)
          refine lv_aload_n hx hb d_M_statement_146 rfl (lv_at hl 1 rfl) ?_
          refine lv_iload_n hx hb d_M_statement_147 rfl (lv_at hl 2 rfl) ?_
          refine lv_aload_n hx hb d_M_statement_148 rfl (lv_at hl 1 rfl) ?_
          refine pw_get (ci := 7) (v := .ref (bk (5))) hx hb hw i_M hown hK hP (0) (by decide) rfl rfl 6 (by decide) (hw _ kF_M_22) rfl d_M_statement_149 ?_
          refine lv_iload_n hx hb d_M_statement_152 rfl (lv_at hl 3 rfl) ?_
          refine pw_ialdC (n := 200) (f := (a 5)) hx hb hK hP 0 (5) (by decide) rfl rfl (vp_mono hv hn) d_M_statement_153 ?_
          refine pw_callSi (va_runV (As := [.int (pt), .int ((a 5) (i).toNatClampNeg)]) (rest := []) ⟨hx, hb, hml, hown, hw⟩ (c_M_next l D cs bk H.size th z (va_up (va_up a 24 (upd (a 24) (z 3 - 1) ((a 5) (i).toNatClampNeg))) 25 (upd (a 25) (z 3 - 1) (((a 25) (z 3 - 1)) + 1))) (by show z 0 ≤ 200; omega) pt ((a 5) (i).toNatClampNeg)) (cw_V 2 hw kM_M_141 kI_M_next kV_M_next kZ_M kC_M_next rfl rfl ⟨rfl, by decide, by decide, by decide +kernel⟩ ⟨Nat.le_of_ble_eq_true rfl, Nat.le_of_ble_eq_true rfl⟩) (pw_preV hN hK hP hD (0) (by decide) rfl rfl) rfl rfl hl.1 rfl (lv_room (Nat.le_of_ble_eq_true rfl)) d_M_statement_154 ⟨Nat.le_of_ble_eq_true rfl, Nat.le_of_ble_eq_true rfl⟩) (fun r_120 hr_120 => ?_)
          have hr_120 : r_120 = lp_next a pt ((a 5) (i).toNatClampNeg) n 0 (-1) := hr_120.trans (lp_next_cg rfl rfl rfl hz0)
          subst hr_120
          refine lv_istore_n (lv' := [(3, .int (lp_next a pt ((a 5) (i).toNatClampNeg) n 0 (-1))), (2, .int (bI ((a 6) i.toNatClampNeg = 3 ∨ (a 6) i.toNatClampNeg = 5))), (0, .ref (bk (0))), (1, .int (pt))]) hx hb d_M_statement_157 rfl hl (by decide) rfl (fun ls hl => ?_)
          refine lv_goto (tgt := 31) hx hb d_M_statement_158 (by decide) ?_
          exact ih th z (va_up (va_up a 24 (upd (a 24) (z 3 - 1) ((a 5) (i).toNatClampNeg))) 25 (upd (a 25) (z 3 - 1) (((a 25) (z 3 - 1)) + 1))) (bI ((a 6) i.toNatClampNeg = 3 ∨ (a 6) i.toNatClampNeg = 5)) (lp_next a pt ((a 5) (i).toNatClampNeg) n 0 (-1)) ((next_sp (a := a) (pt := pt) (x := a 5 i.toNatClampNeg) (n := n) (by omega)).imp id (fun q => by have h8 := q.2.1; rw [Int32.lt_iff_toInt_lt] at h8; show (9999 : Int) < (a 5 _).toInt + (k : Nat); omega)) hz0 ((next_sp (a := a) (pt := pt) (x := a 5 i.toNatClampNeg) (n := n) (by omega)).imp id (fun q => ⟨q.1, by have h8 := cntA_lt (f := a 5) q.2.1 n (vp_lt9 q.1); show z 3 + 1 + cntA (a 5) (a 5 _) n ≤ n; omega⟩)) (fun _ => hgo c_108) ho (by rw [hR, lp_mstat, if_neg c_101, if_pos c_103, if_neg c_108]) _ _ _ hP hD hS (lv_sub hl [2, 3, 1, 0] rfl)
def s_M_statement (th : Int32) (z : Nat → Nat) (a : Nat → Nat → Int32) (pt : Int32) : MS := (if 0 ≤ pt ∧ pt ≤ 9 then (lp_mstat (z 0) pt 10000 0 (va_up z 3 (0)) a 0 (lp_next a pt 0 (z 0) 0 (-1))) else (-1, 0, z, a))
set_option maxHeartbeats 4000000 in
set_option maxRecDepth 100000 in
theorem c_M_statement (l : Launch) (D : va_G) (cs : Nat → ClassId) (bk : Nat → Nat) (sz : Nat) (th : Int32) (z : Nat → Nat) (a : Nat → Nat → Int32) (hz : z 0 ≤ 200) (ho : ∀ j, j < z 0 → 1 ≤ a 5 j ∧ a 5 j ≤ 9999) (pt : Int32) : Met l y_M_statement w_M_statement ({ frames := 1, cells := 0, slots := 0, locals := 24 }) (va_Pc [.ref (bk (0)), .int (pt)] (PB D classes (TY cs) 28 bk (MW cs th z a bk) sz)) (va_Qi (Mr cs bk (s_M_statement th z a pt)) (Wd D classes (TY cs) (AA 28 bk sz)) (AA 28 bk sz)) 0 0 (AA 28 bk sz) := by
  refine pw_entry (cc := b_M_statement) (maxL := 4) (ret := (some .int)) (by decide +kernel) rfl (Nat.le_of_ble_eq_true rfl) ?_
  intro p_ e_ s m below_ meth_ c_ ls hx hb hr hml hts hown hlocks hin hsz hP hK hD hS hA hN hl
  have hw : ∀ w ∈ WA, w.before _ s = true := fun w h => hts w (List.mem_cons_of_mem _ h)
  have hown : s.vm.findClass "IssueRowsModel" = some m.cls := hown
  have hl : lv_has ls 4 [(0, .ref (bk (0))), (1, .int (pt))] := hl
  refine lv_aload_n hx hb d_M_statement_0 rfl (lv_at hl 0 rfl) ?_
  refine lv_iconst (v := 0) hx hb d_M_statement_1 (by decide) ?_
  refine pw_put (ci := 7) (v := .int (0)) (ty := .int) (fs' := [.int (0), .ref (bk (1)), .ref (bk (2)), .ref (bk (3)), .int (nI (z 0)), .ref (bk (4)), .ref (bk (5)), .ref (bk (6)), .ref (bk (7)), .ref (bk (8)), .ref (bk (9)), .ref (bk (10)), .ref (bk (11)), .ref (bk (12)), .ref (bk (13)), .ref (bk (14)), .ref (bk (15)), .ref (bk (16)), .ref (bk (17)), .ref (bk (18)), .ref (bk (19)), .ref (bk (20)), .int (nI (z 1)), .ref (bk (21)), .ref (bk (22)), .int (nI (z 2)), .int (nI (z 3)), .ref (bk (23)), .ref (bk (24)), .ref (bk (25)), .int (nI (z 4)), .ref (bk (26)), .ref (bk (27))]) hx hb hw i_M t_M t_M_ok n_M hown hK hP hD hS (0) (by decide) rfl rfl 0 (by decide) (hw _ kF_M_92) rfl (t_M_ok 0 (by decide)) rfl rfl (Nat.le_of_ble_eq_true rfl) rfl d_M_statement_2 (fun cw_1 H locs ecw_1 hP hD hS => ?_)
  obtain rfl : cw_1 = MW cs 0 z a bk := by rw [ecw_1]; exact MW_obj 0 z
  refine lv_iload_n hx hb d_M_statement_5 rfl (lv_at hl 1 rfl) ?_
  refine lv_iconst (v := 0) hx hb d_M_statement_6 (by decide) ?_
  refine lv_bipush (v := 9) hx hb d_M_statement_7 (by decide) ?_
  refine pw_callSi (va_runS (As := [.int (pt), .int (0), .int (9)]) (rest := []) ⟨hx, hb, hml, hown, hw⟩ (c_M_in l D cs bk H.size 0 z a pt 0 9) (cw_S 3 hw kM_M_97 kS_M_in kZ_M kC_M_in rfl rfl ⟨rfl, by decide, by decide, by decide +kernel⟩ ⟨Nat.le_of_ble_eq_true rfl, Nat.le_of_ble_eq_true rfl⟩) (pw_preS hN hK hP hD) rfl rfl hl.1 rfl (lv_room (Nat.le_of_ble_eq_true rfl)) d_M_statement_9 ⟨Nat.le_of_ble_eq_true rfl, Nat.le_of_ble_eq_true rfl⟩) (fun r_2 hr_2 => ?_)
  have hr_2 : r_2 = bI (0 ≤ pt ∧ pt ≤ 9) := hr_2
  subst hr_2
  refine pw_ifne (tgt := 17) hx hb d_M_statement_12 (by decide) (fun c_3 => ?_) (fun c_3 => ?_)
  · have c_3 : 0 ≤ pt ∧ pt ≤ 9 := c_3
    refine lv_aload_n hx hb d_M_statement_17 rfl (lv_at hl 0 rfl) ?_
    refine lv_iconst (v := 0) hx hb d_M_statement_18 (by decide) ?_
    refine pw_put (ci := 7) (v := .int (0)) (ty := .int) (fs' := [.int (0), .ref (bk (1)), .ref (bk (2)), .ref (bk (3)), .int (nI (z 0)), .ref (bk (4)), .ref (bk (5)), .ref (bk (6)), .ref (bk (7)), .ref (bk (8)), .ref (bk (9)), .ref (bk (10)), .ref (bk (11)), .ref (bk (12)), .ref (bk (13)), .ref (bk (14)), .ref (bk (15)), .ref (bk (16)), .ref (bk (17)), .ref (bk (18)), .ref (bk (19)), .ref (bk (20)), .int (nI (z 1)), .ref (bk (21)), .ref (bk (22)), .int (nI (z 2)), .int (0), .ref (bk (23)), .ref (bk (24)), .ref (bk (25)), .int (nI (z 4)), .ref (bk (26)), .ref (bk (27))]) hx hb hw i_M t_M t_M_ok n_M hown hK hP hD hS (0) (by decide) rfl rfl 26 (by decide) (hw _ kF_M_138) rfl (t_M_ok 26 (by decide)) rfl rfl (Nat.le_of_ble_eq_true rfl) rfl d_M_statement_19 (fun cw_4 H locs ecw_4 hP hD hS => ?_)
    obtain rfl : cw_4 = MW cs 0 (va_up z 3 (0)) a bk := by rw [ecw_4]; exact MW_obj 0 (va_up z 3 (0))
    refine lv_iconst (v := 0) hx hb d_M_statement_22 (by decide) ?_
    refine lv_istore_n (lv' := [(2, .int (0)), (0, .ref (bk (0))), (1, .int (pt))]) hx hb d_M_statement_23 rfl hl (by decide) rfl (fun ls hl => ?_)
    refine lv_aload_n hx hb d_M_statement_24 rfl (lv_at hl 1 rfl) ?_
    refine lv_iload_n hx hb d_M_statement_25 rfl (lv_at hl 2 rfl) ?_
    refine lv_iconst (v := 0) hx hb d_M_statement_26 (by decide) ?_
    refine pw_callSi (va_runV (As := [.int (pt), .int (0)]) (rest := []) ⟨hx, hb, hml, hown, hw⟩ (c_M_next l D cs bk H.size 0 (va_up z 3 (0)) a (by show z 0 ≤ 200; omega) pt 0) (cw_V 2 hw kM_M_141 kI_M_next kV_M_next kZ_M kC_M_next rfl rfl ⟨rfl, by decide, by decide, by decide +kernel⟩ ⟨Nat.le_of_ble_eq_true rfl, Nat.le_of_ble_eq_true rfl⟩) (pw_preV hN hK hP hD (0) (by decide) rfl rfl) rfl rfl hl.1 rfl (lv_room (Nat.le_of_ble_eq_true rfl)) d_M_statement_27 ⟨Nat.le_of_ble_eq_true rfl, Nat.le_of_ble_eq_true rfl⟩) (fun r_5 hr_5 => ?_)
    have hr_5 : r_5 = lp_next a pt 0 (z 0) 0 (-1) := hr_5.trans (lp_next_cg rfl rfl rfl rfl)
    subst hr_5
    refine lv_istore_n (lv' := [(3, .int (lp_next a pt 0 (z 0) 0 (-1))), (2, .int (0)), (0, .ref (bk (0))), (1, .int (pt))]) hx hb d_M_statement_30 rfl hl (by decide) rfl (fun ls hl => ?_)
    exact l_M_statement (z 0) hz pt _ hx hb hr hml hw hown hlocks hA hN hK 10000 0 (va_up z 3 (0)) a 0 (lp_next a pt 0 (z 0) 0 (-1)) ((next_sp (a := a) (pt := pt) (x := 0) (n := z 0) (by omega)).imp id (fun q => by have h8 := (ho _ (vp_lt9 q.1)).1; rw [Int32.le_iff_toInt_le, T1] at h8; show (9999 : Int) < (a 5 _).toInt + ((10000 : Nat) : Int); omega)) rfl ((next_sp (a := a) (pt := pt) (x := 0) (n := z 0) (by omega)).imp id (fun q => ⟨q.1, by have h8 := cntA_lt (f := a 5) (x := 0) q.2.1 (z 0) (vp_lt9 q.1); have h7 := cntA_n (f := a 5) (x := 0) (z 0); show 0 + 1 + cntA (a 5) (a 5 _) (z 0) ≤ z 0; omega⟩)) (fun q => absurd rfl q) ho (by rw [s_M_statement, if_pos c_3]) _ _ _ hP hD hS (lv_sub hl [2, 3, 1, 0] rfl)
  · have c_3 : ¬ (0 ≤ pt ∧ pt ≤ 9) := c_3
    refine lv_iconst (v := -1) hx hb d_M_statement_15 (by decide) ?_
    exact W.iret (v := -1) hx hb hr (fun t ht hW => ⟨⟨-1, (28, bk, MW cs 0 z a bk), rfl, Mr_of (by rw [s_M_statement, if_neg c_3]), by rw [ht]; exact hP, va_K.moved hW.alike hK, hD⟩, hS.F ht⟩) hS.2.2 d_M_statement_16
