theorem le_pr {x : Int32} {z : Nat} (h : z < 2 ^ 31) : x ≤ nI z - 1 ↔ x < nI z := by
  have e : (nI z - 1).toInt = (z : Int) - 1 := by
    rw [Int32.toInt_sub, nI_toInt h, T1]; exact Int.bmod_eq_of_le (by omega) (by omega)
  rw [Int32.le_iff_toInt_le, Int32.lt_iff_toInt_lt, e, nI_toInt h]; omega
theorem le_pq {j z : Nat} (h : j < z ∧ z < 2 ^ 31) : nI z - 1 ≤ nI j ↔ z ≤ j + 1 := by
  have e : (nI z - 1).toInt = (z : Int) - 1 := by
    rw [Int32.toInt_sub, nI_toInt h.2, T1]; exact Int.bmod_eq_of_le (by omega) (by omega)
  rw [Int32.le_iff_toInt_le, e, nI_toInt (by omega)]; omega
set_option maxHeartbeats 4000000 in
set_option maxRecDepth 100000 in
theorem c_P_clear (l : Launch) (D : va_G) (cs : Nat → ClassId) (N : Nat) (bk : Nat → Nat) (cw : Nat → va_E) (sz : Nat) (K K1 K2 : Nat) (hk : K < N) (zz : Int32) (he : cw K = .inr (4, [.ref (bk K1), .ref (bk K2), .int zz])) : Met l y_P_clear w_P_clear ({ frames := 0, cells := 0, slots := 0, locals := 0 }) (va_Pc [.ref (bk (K))] (PB D classes (TY cs) N bk cw sz)) (va_Qv (fun u : Wt => u = (N, bk, va_up cw K (.inr (4, [.ref (bk K1), .ref (bk K2), .int 0])))) (Wd D classes (TY cs) (AA N bk sz)) (AA N bk sz)) 0 0 (AA N bk sz) := by
  refine pw_entry (cc := b_P_clear) (maxL := 1) (ret := none) (by decide +kernel) rfl (Nat.le_of_ble_eq_true rfl) ?_
  intro p_ e_ s m below_ meth_ c_ ls hx hb hr hml hts hown hlocks hin hsz hP hK hD hS hA hN hl
  have hw : ∀ w ∈ WA, w.before _ s = true := fun w h => hts w (List.mem_cons_of_mem _ h)
  have hown : s.vm.findClass "IssueRows$Pairs" = some m.cls := hown
  have hl : lv_has ls 1 [(0, .ref (bk (K)))] := hl
  refine lv_aload_n hx hb d_P_clear_0 rfl (lv_at hl 0 rfl) ?_
  refine lv_iconst (v := 0) hx hb d_P_clear_1 (by decide) ?_
  refine pw_put (ci := 4) (v := .int (0)) (ty := .int) (fs' := [.ref (bk (K1)), .ref (bk (K2)), .int (0)]) hx hb hw i_P t_P t_P_ok n_P hown hK hP hD hS (K) hk he rfl 2 (by decide) (hw _ kF_P_9) rfl (t_P_ok 2 (by decide)) rfl rfl (Nat.le_of_ble_eq_true rfl) rfl d_P_clear_2 (fun cw_1 H locs ecw_1 hP hD hS => ?_)
  have h_2 : cw_1 (K) = .inr (4, [.ref (bk (K1)), .ref (bk (K2)), .int (0)]) := by rw [ecw_1]; exact va_up_self _ _ _
  exact W.vret hx hb hr (fun t ht hW => ⟨⟨(N, bk, cw_1), rfl, by rw [ecw_1], by rw [ht]; exact hP, va_K.moved hW.alike hK, hD⟩, hS.F ht⟩) hS.2.2 d_P_clear_5
set_option maxHeartbeats 4000000 in
set_option maxRecDepth 100000 in
theorem c_P_add (l : Launch) (D : va_G) (cs : Nat → ClassId) (N : Nat) (bk : Nat → Nat) (cw : Nat → va_E) (sz : Nat) (K K1 K2 : Nat) (hk : K < N) (z : Nat) (he : cw K = .inr (4, [.ref (bk K1), .ref (bk K2), .int (nI z)])) (ln : Nat) (hln : ln < 2 ^ 30) (hz : z ≤ ln) (f1 f2 : Nat → Int32) (hk1 : K1 < N) (he1 : cw K1 = .inl (cs 0, ln, .inl f1)) (hk2 : K2 < N) (he2 : cw K2 = .inl (cs 0, ln, .inl f2)) (n1 : K ≠ K1) (n2 : K ≠ K2) (n3 : K1 ≠ K2) (x y : Int32) : Met l y_P_add w_P_add ({ frames := 0, cells := 0, slots := 0, locals := 0 }) (va_Pc [.ref (bk (K)), .int (x), .int (y)] (PB D classes (TY cs) N bk cw sz)) (va_Qv (fun u : Wt => (z < ln → u = (N, bk, va_up (va_up (va_up cw K1 (.inl (cs 0, ln, .inl (upd f1 z x)))) K2 (.inl (cs 0, ln, .inl (upd f2 z y)))) K (.inr (4, [.ref (bk K1), .ref (bk K2), .int (nI (z + 1))])))) ∧ (¬ z < ln → u = (N, bk, cw))) (Wd D classes (TY cs) (AA N bk sz)) (AA N bk sz)) 0 0 (AA N bk sz) := by
  refine pw_entry (cc := b_P_add) (maxL := 3) (ret := none) (by decide +kernel) rfl (Nat.le_of_ble_eq_true rfl) ?_
  intro p_ e_ s m below_ meth_ c_ ls hx hb hr hml hts hown hlocks hin hsz hP hK hD hS hA hN hl
  have hw : ∀ w ∈ WA, w.before _ s = true := fun w h => hts w (List.mem_cons_of_mem _ h)
  have hown : s.vm.findClass "IssueRows$Pairs" = some m.cls := hown
  have hl : lv_has ls 3 [(0, .ref (bk (K))), (1, .int (x)), (2, .int (y))] := hl
  refine lv_aload_n hx hb d_P_add_0 rfl (lv_at hl 0 rfl) ?_
  refine pw_get (ci := 4) (v := .int (nI z)) hx hb hw i_P hown hK hP (K) hk he rfl 2 (by decide) (hw _ kF_P_9) rfl d_P_add_1 ?_
  refine lv_aload_n hx hb d_P_add_4 rfl (lv_at hl 0 rfl) ?_
  refine pw_get (ci := 4) (v := .ref (bk (K1))) hx hb hw i_P hown hK hP (K) hk he rfl 0 (by decide) (hw _ kF_P_21) rfl d_P_add_5 ?_
  refine pw_alen hx hb hK hP 0 (K1) hk1 he1 (ty := .int) rfl d_P_add_8 ?_
  refine lv_icmp_ge (tgt := 42) hx hb d_P_add_9 (by decide) (fun c_1 => ?_) (fun c_1 => ?_)
  · have c_1 : (nI (ln)) ≤ (nI z) := c_1
    exact W.vret hx hb hr (fun t ht hW => ⟨⟨(N, bk, cw), rfl, ⟨fun h => absurd ((nI_leI (by omega) (by omega)).mp c_1) (by omega), fun _ => rfl⟩, by rw [ht]; exact hP, va_K.moved hW.alike hK, hD⟩, hS.F ht⟩) hS.2.2 d_P_add_42
  · have c_1 : ¬ (nI (ln)) ≤ (nI z) := c_1
    refine lv_aload_n hx hb d_P_add_12 rfl (lv_at hl 0 rfl) ?_
    refine pw_get (ci := 4) (v := .ref (bk (K1))) hx hb hw i_P hown hK hP (K) hk he rfl 0 (by decide) (hw _ kF_P_21) rfl d_P_add_13 ?_
    refine lv_aload_n hx hb d_P_add_16 rfl (lv_at hl 0 rfl) ?_
    refine pw_get (ci := 4) (v := .int (nI z)) hx hb hw i_P hown hK hP (K) hk he rfl 2 (by decide) (hw _ kF_P_9) rfl d_P_add_17 ?_
    refine lv_iload_n hx hb d_P_add_20 rfl (lv_at hl 1 rfl) ?_
    refine pw_iast (n := ln) (f := f1) hx hb hK hP hD hS 0 (K1) hk1 he1 rfl (z) rfl (by have h7 := c_1; rw [nI_leI (by omega) (by omega)] at h7; omega) (by omega) d_P_add_21 (fun cw_2 H locs ecw_2 hP hD hS => ?_)
    have h_3 : cw_2 (K) = .inr (4, [.ref (bk (K1)), .ref (bk (K2)), .int (nI z)]) := by rw [ecw_2, va_up_ne _ _ (by omega)]; exact he
    have h_4 : cw_2 (K1) = .inl (cs 0, ln, .inl (upd f1 (z) (x))) := by rw [ecw_2]; exact va_up_self _ _ _
    have h_5 : cw_2 (K2) = .inl (cs 0, ln, .inl f2) := by rw [ecw_2, va_up_ne _ _ (by omega)]; exact he2
    refine lv_aload_n hx hb d_P_add_22 rfl (lv_at hl 0 rfl) ?_
    refine pw_get (ci := 4) (v := .ref (bk (K2))) hx hb hw i_P hown hK hP (K) hk h_3 rfl 1 (by decide) (hw _ kF_P_25) rfl d_P_add_23 ?_
    refine lv_aload_n hx hb d_P_add_26 rfl (lv_at hl 0 rfl) ?_
    refine pw_get (ci := 4) (v := .int (nI z)) hx hb hw i_P hown hK hP (K) hk h_3 rfl 2 (by decide) (hw _ kF_P_9) rfl d_P_add_27 ?_
    refine lv_iload_n hx hb d_P_add_30 rfl (lv_at hl 2 rfl) ?_
    refine pw_iast (n := ln) (f := f2) hx hb hK hP hD hS 0 (K2) hk2 h_5 rfl (z) rfl (by have h7 := c_1; rw [nI_leI (by omega) (by omega)] at h7; omega) (by omega) d_P_add_31 (fun cw_6 H locs ecw_6 hP hD hS => ?_)
    have h_7 : cw_6 (K) = .inr (4, [.ref (bk (K1)), .ref (bk (K2)), .int (nI z)]) := by rw [ecw_6, va_up_ne _ _ (by omega)]; exact h_3
    have h_8 : cw_6 (K1) = .inl (cs 0, ln, .inl (upd f1 (z) (x))) := by rw [ecw_6, va_up_ne _ _ (by omega)]; exact h_4
    have h_9 : cw_6 (K2) = .inl (cs 0, ln, .inl (upd f2 (z) (y))) := by rw [ecw_6]; exact va_up_self _ _ _
    refine lv_aload_n hx hb d_P_add_32 rfl (lv_at hl 0 rfl) ?_
    refine lv_dup hx hb d_P_add_33 rfl ?_
    refine pw_get (ci := 4) (v := .int (nI z)) hx hb hw i_P hown hK hP (K) hk h_7 rfl 2 (by decide) (hw _ kF_P_9) rfl d_P_add_34 ?_
    refine lv_iconst (v := 1) hx hb d_P_add_37 (by decide) ?_
    refine lv_iadd hx hb d_P_add_38 ?_
    rw [show (nI z) + 1 = nI (z + 1) from nI_1 z]
    refine pw_put (ci := 4) (v := .int (nI (z + 1))) (ty := .int) (fs' := [.ref (bk (K1)), .ref (bk (K2)), .int (nI (z + 1))]) hx hb hw i_P t_P t_P_ok n_P hown hK hP hD hS (K) hk h_7 rfl 2 (by decide) (hw _ kF_P_9) rfl (t_P_ok 2 (by decide)) rfl rfl (Nat.le_of_ble_eq_true rfl) rfl d_P_add_39 (fun cw_10 H locs ecw_10 hP hD hS => ?_)
    have h_11 : cw_10 (K) = .inr (4, [.ref (bk (K1)), .ref (bk (K2)), .int (nI (z + 1))]) := by rw [ecw_10]; exact va_up_self _ _ _
    have h_12 : cw_10 (K1) = .inl (cs 0, ln, .inl (upd f1 (z) (x))) := by rw [ecw_10, va_up_ne _ _ (by omega)]; exact h_8
    have h_13 : cw_10 (K2) = .inl (cs 0, ln, .inl (upd f2 (z) (y))) := by rw [ecw_10, va_up_ne _ _ (by omega)]; exact h_9
    exact W.vret hx hb hr (fun t ht hW => ⟨⟨(N, bk, cw_10), rfl, ⟨fun _ => by rw [ecw_10, ecw_6, ecw_2], fun h => absurd ((nI_leI (by omega) (by omega)).mpr (by omega)) c_1⟩, by rw [ht]; exact hP, va_K.moved hW.alike hK, hD⟩, hS.F ht⟩) hS.2.2 d_P_add_42
set_option maxHeartbeats 4000000 in
set_option maxRecDepth 100000 in
theorem c_P_has (l : Launch) (D : va_G) (cs : Nat → ClassId) (N : Nat) (bk : Nat → Nat) (cw : Nat → va_E) (sz : Nat) (K K1 K2 : Nat) (hk : K < N) (z : Nat) (he : cw K = .inr (4, [.ref (bk K1), .ref (bk K2), .int (nI z)])) (ln : Nat) (hln : ln < 2 ^ 30) (hz : z ≤ ln) (f1 f2 : Nat → Int32) (hk1 : K1 < N) (he1 : cw K1 = .inl (cs 0, ln, .inl f1)) (hk2 : K2 < N) (he2 : cw K2 = .inl (cs 0, ln, .inl f2)) (i what : Int32) : Met l y_P_has w_P_has ({ frames := 1, cells := 0, slots := 0, locals := 22 }) (va_Pc [.ref (bk (K)), .int (i), .int (what)] (PB D classes (TY cs) N bk cw sz)) (vp_Si (fun r => r = bI ((0 ≤ i ∧ i < nI z) ∧ 0 ≤ what ∧ what ≤ 1))) 0 0 (fun _ => False) := by
  refine pw_entry (cc := b_P_has) (maxL := 3) (ret := (some .boolean)) (by decide +kernel) rfl (Nat.le_of_ble_eq_true rfl) ?_
  intro p_ e_ s m below_ meth_ c_ ls hx hb hr hml hts hown hlocks hin hsz hP hK hD hS hA hN hl
  have hw : ∀ w ∈ WA, w.before _ s = true := fun w h => hts w (List.mem_cons_of_mem _ h)
  have hown : s.vm.findClass "IssueRows$Pairs" = some m.cls := hown
  have hl : lv_has ls 3 [(0, .ref (bk (K))), (1, .int (i)), (2, .int (what))] := hl
  refine lv_iload_n hx hb d_P_has_0 rfl (lv_at hl 1 rfl) ?_
  refine lv_iconst (v := 0) hx hb d_P_has_1 (by decide) ?_
  refine lv_aload_n hx hb d_P_has_2 rfl (lv_at hl 0 rfl) ?_
  refine pw_get (ci := 4) (v := .int (nI z)) hx hb hw i_P hown hK hP (K) hk he rfl 2 (by decide) (hw _ kF_P_9) rfl d_P_has_3 ?_
  refine lv_iconst (v := 1) hx hb d_P_has_6 (by decide) ?_
  refine lv_isub hx hb d_P_has_7 ?_
  refine pw_callSi (va_runSN (As := [.int (i), .int (0), .int ((nI z) - 1)]) (rest := []) ⟨hx, hb, hml, hown, hw⟩ (c_X_within l D cs N bk cw s.heap.size i 0 ((nI z) - 1)) (cw_SN 3 hw (kN_P_28 hN) kS_X_within kZ_X kC_X_within rfl rfl ⟨by decide, by decide, by decide +kernel⟩ ⟨Nat.le_of_ble_eq_true rfl, Nat.le_of_ble_eq_true rfl⟩) (pw_preS hN hK hP hD) rfl rfl hl.1 rfl (lv_room (Nat.le_of_ble_eq_true rfl)) d_P_has_8 ⟨Nat.le_of_ble_eq_true rfl, Nat.le_of_ble_eq_true rfl⟩) (fun r_1 hr_1 => ?_)
  have hr_1 : r_1 = bI (0 ≤ i ∧ i ≤ ((nI z) - 1)) := hr_1
  subst hr_1
  refine pw_ifeq (tgt := 27) hx hb d_P_has_11 (by decide) (fun c_2 => ?_) (fun c_2 => ?_)
  · have c_2 : ¬ (0 ≤ i ∧ i ≤ ((nI z) - 1)) := c_2
    refine lv_iconst (v := 0) hx hb d_P_has_27 (by decide) ?_
    exact W.zret (v := 0) (ty := .boolean) hx hb hr (by decide) (fun t ht hW => ⟨0, rfl, (bI_f (fun h => c_2 ⟨h.1.1, (le_pr (by omega)).mpr h.1.2⟩)).symm, ht⟩) (fun q h => by cases h) d_P_has_28
  · have c_2 : 0 ≤ i ∧ i ≤ ((nI z) - 1) := c_2
    refine lv_iload_n hx hb d_P_has_14 rfl (lv_at hl 2 rfl) ?_
    refine lv_iconst (v := 0) hx hb d_P_has_15 (by decide) ?_
    refine lv_iconst (v := 1) hx hb d_P_has_16 (by decide) ?_
    refine pw_callSi (va_runSN (As := [.int (what), .int (0), .int (1)]) (rest := []) ⟨hx, hb, hml, hown, hw⟩ (c_X_within l D cs N bk cw s.heap.size what 0 1) (cw_SN 3 hw (kN_P_28 hN) kS_X_within kZ_X kC_X_within rfl rfl ⟨by decide, by decide, by decide +kernel⟩ ⟨Nat.le_of_ble_eq_true rfl, Nat.le_of_ble_eq_true rfl⟩) (pw_preS hN hK hP hD) rfl rfl hl.1 rfl (lv_room (Nat.le_of_ble_eq_true rfl)) d_P_has_17 ⟨Nat.le_of_ble_eq_true rfl, Nat.le_of_ble_eq_true rfl⟩) (fun r_3 hr_3 => ?_)
    have hr_3 : r_3 = bI (0 ≤ what ∧ what ≤ 1) := hr_3
    subst hr_3
    refine pw_ifeq (tgt := 27) hx hb d_P_has_20 (by decide) (fun c_4 => ?_) (fun c_4 => ?_)
    · have c_4 : ¬ (0 ≤ what ∧ what ≤ 1) := c_4
      refine lv_iconst (v := 0) hx hb d_P_has_27 (by decide) ?_
      exact W.zret (v := 0) (ty := .boolean) hx hb hr (by decide) (fun t ht hW => ⟨0, rfl, (bI_f (fun h => c_4 h.2)).symm, ht⟩) (fun q h => by cases h) d_P_has_28
    · have c_4 : 0 ≤ what ∧ what ≤ 1 := c_4
      refine lv_iconst (v := 1) hx hb d_P_has_23 (by decide) ?_
      refine lv_goto (tgt := 28) hx hb d_P_has_24 (by decide) ?_
      exact W.zret (v := 1) (ty := .boolean) hx hb hr (by decide) (fun t ht hW => ⟨1, rfl, (bI_t ⟨⟨c_2.1, (le_pr (by omega)).mp c_2.2⟩, c_4⟩).symm, ht⟩) (fun q h => by cases h) d_P_has_28
set_option maxHeartbeats 4000000 in
set_option maxRecDepth 100000 in
theorem c_P_part (l : Launch) (D : va_G) (cs : Nat → ClassId) (N : Nat) (bk : Nat → Nat) (cw : Nat → va_E) (sz : Nat) (K K1 K2 : Nat) (hk : K < N) (z : Nat) (he : cw K = .inr (4, [.ref (bk K1), .ref (bk K2), .int (nI z)])) (ln : Nat) (hln : ln < 2 ^ 30) (hz : z ≤ ln) (f1 f2 : Nat → Int32) (hk1 : K1 < N) (he1 : cw K1 = .inl (cs 0, ln, .inl f1)) (hk2 : K2 < N) (he2 : cw K2 = .inl (cs 0, ln, .inl f2)) (j : Nat) (hj : j < z) (what : Int32) (hq : 0 ≤ what ∧ what ≤ 1) : Met l y_P_part w_P_part ({ frames := 2, cells := 0, slots := 0, locals := 44 }) (va_Pc [.ref (bk (K)), .int (nI j), .int (what)] (PB D classes (TY cs) N bk cw sz)) (vp_Si (fun r => r = if what = 0 then f1 j else f2 j)) 0 0 (fun _ => False) := by
  refine pw_entry (cc := b_P_part) (maxL := 3) (ret := (some .int)) (by decide +kernel) rfl (Nat.le_of_ble_eq_true rfl) ?_
  intro p_ e_ s m below_ meth_ c_ ls hx hb hr hml hts hown hlocks hin hsz hP hK hD hS hA hN hl
  have hw : ∀ w ∈ WA, w.before _ s = true := fun w h => hts w (List.mem_cons_of_mem _ h)
  have hown : s.vm.findClass "IssueRows$Pairs" = some m.cls := hown
  have hl : lv_has ls 3 [(0, .ref (bk (K))), (1, .int (nI j)), (2, .int (what))] := hl
  refine lv_aload_n hx hb d_P_part_0 rfl (lv_at hl 0 rfl) ?_
  refine lv_iload_n hx hb d_P_part_1 rfl (lv_at hl 1 rfl) ?_
  refine lv_iload_n hx hb d_P_part_2 rfl (lv_at hl 2 rfl) ?_
  refine pw_callSi (va_runV (As := [.int (nI j), .int (what)]) (rest := []) ⟨hx, hb, hml, hown, hw⟩ (c_P_has l D cs N bk cw s.heap.size (K) (K1) (K2) hk z he ln hln hz f1 f2 hk1 he1 hk2 he2 (nI j) what) (cw_V 2 hw kM_P_32 kI_P_has kV_P_has kZ_P kC_P_has rfl rfl ⟨rfl, by decide, by decide, by decide +kernel⟩ ⟨Nat.le_of_ble_eq_true rfl, Nat.le_of_ble_eq_true rfl⟩) (pw_preV hN hK hP hD (K) hk he rfl) rfl rfl hl.1 rfl (lv_room (Nat.le_of_ble_eq_true rfl)) d_P_part_3 ⟨Nat.le_of_ble_eq_true rfl, Nat.le_of_ble_eq_true rfl⟩) (fun r_1 hr_1 => ?_)
  have hr_1 : r_1 = bI ((0 ≤ (nI j) ∧ (nI j) < nI z) ∧ 0 ≤ what ∧ what ≤ 1) := hr_1
  subst hr_1
  refine pw_ifne (tgt := 11) hx hb d_P_part_6 (by decide) (fun c_2 => ?_) (fun c_2 => ?_)
  · have c_2 : (0 ≤ (nI j) ∧ (nI j) < nI z) ∧ 0 ≤ what ∧ what ≤ 1 := c_2
    refine lv_iload_n hx hb d_P_part_11 rfl (lv_at hl 2 rfl) ?_
    refine lv_if_ne (tgt := 24) hx hb d_P_part_12 (by decide) (fun c_3 => ?_) (fun c_3 => ?_)
    · have c_3 : ¬ what = 0 := c_3
      refine lv_aload_n hx hb d_P_part_24 rfl (lv_at hl 0 rfl) ?_
      refine pw_get (ci := 4) (v := .ref (bk (K2))) hx hb hw i_P hown hK hP (K) hk he rfl 1 (by decide) (hw _ kF_P_25) rfl d_P_part_25 ?_
      refine lv_iload_n hx hb d_P_part_28 rfl (lv_at hl 1 rfl) ?_
      refine pw_iald (n := ln) (f := f2) hx hb hK hP 0 (K2) hk2 he2 rfl (j) rfl (by omega) (by omega) d_P_part_29 ?_
      exact W.iret (v := f2 (j)) hx hb hr (fun t ht hW => ⟨f2 (j), rfl, (by rw [if_neg c_3]), ht⟩) (fun q h => by cases h) d_P_part_30
    · have c_3 : what = 0 := c_3
      refine lv_aload_n hx hb d_P_part_15 rfl (lv_at hl 0 rfl) ?_
      refine pw_get (ci := 4) (v := .ref (bk (K1))) hx hb hw i_P hown hK hP (K) hk he rfl 0 (by decide) (hw _ kF_P_21) rfl d_P_part_16 ?_
      refine lv_iload_n hx hb d_P_part_19 rfl (lv_at hl 1 rfl) ?_
      refine pw_iald (n := ln) (f := f1) hx hb hK hP 0 (K1) hk1 he1 rfl (j) rfl (by omega) (by omega) d_P_part_20 ?_
      refine lv_goto (tgt := 30) hx hb d_P_part_21 (by decide) ?_
      exact W.iret (v := f1 (j)) hx hb hr (fun t ht hW => ⟨f1 (j), rfl, (by rw [if_pos c_3]), ht⟩) (fun q h => by cases h) d_P_part_30
  · have c_2 : ¬ ((0 ≤ (nI j) ∧ (nI j) < nI z) ∧ 0 ≤ what ∧ what ≤ 1) := c_2
    exact absurd ⟨⟨nI_pos' (by omega), (nI_ltI (by omega) (by omega)).mpr hj⟩, hq⟩ c_2
set_option maxHeartbeats 4000000 in
set_option maxRecDepth 100000 in
theorem c_V_isFull (l : Launch) (D : va_G) (cs : Nat → ClassId) (N : Nat) (bk : Nat → Nat) (cw : Nat → va_E) (sz : Nat) (K K1 K2 : Nat) (hk : K < N) (v : Nat) (hv : v ≤ 40) (he : cw K = .inr (5, [.ref (bk K1), .ref (bk K2), .int (nI v)])) (mm en : Nat → Int32) (hk1 : K1 < N) (he1 : cw K1 = .inl (cs 0, 200, .inl mm)) (hk2 : K2 < N) (he2 : cw K2 = .inl (cs 0, 41, .inl en)) : Met l y_V_isFull w_V_isFull ({ frames := 0, cells := 0, slots := 0, locals := 0 }) (va_Pc [.ref (bk (K))] (PB D classes (TY cs) N bk cw sz)) (vp_Si (fun r => r = bI (40 ≤ v))) 0 0 (fun _ => False) := by
  refine pw_entry (cc := b_V_isFull) (maxL := 1) (ret := (some .boolean)) (by decide +kernel) rfl (Nat.le_of_ble_eq_true rfl) ?_
  intro p_ e_ s m below_ meth_ c_ ls hx hb hr hml hts hown hlocks hin hsz hP hK hD hS hA hN hl
  have hw : ∀ w ∈ WA, w.before _ s = true := fun w h => hts w (List.mem_cons_of_mem _ h)
  have hown : s.vm.findClass "IssueRows$Volumes" = some m.cls := hown
  have hl : lv_has ls 1 [(0, .ref (bk (K)))] := hl
  refine lv_aload_n hx hb d_V_isFull_0 rfl (lv_at hl 0 rfl) ?_
  refine pw_get (ci := 5) (v := .int (nI v)) hx hb hw i_V hown hK hP (K) hk he rfl 2 (by decide) (hw _ kF_V_18) rfl d_V_isFull_1 ?_
  refine lv_bipush (v := 40) hx hb d_V_isFull_4 (by decide) ?_
  refine lv_icmp_lt (tgt := 13) hx hb d_V_isFull_6 (by decide) (fun c_1 => ?_) (fun c_1 => ?_)
  · have c_1 : (nI v) < 40 := c_1
    refine lv_iconst (v := 0) hx hb d_V_isFull_13 (by decide) ?_
    exact W.zret (v := 0) (ty := .boolean) hx hb hr (by decide) (fun t ht hW => ⟨0, rfl, (bI_f (by have h7 := c_1; simp only [Int32.lt_iff_toInt_lt, nI_toInt (show v < 2 ^ 31 by omega), T40] at h7; omega)).symm, ht⟩) (fun q h => by cases h) d_V_isFull_14
  · have c_1 : ¬ (nI v) < 40 := c_1
    refine lv_iconst (v := 1) hx hb d_V_isFull_9 (by decide) ?_
    refine lv_goto (tgt := 14) hx hb d_V_isFull_10 (by decide) ?_
    exact W.zret (v := 1) (ty := .boolean) hx hb hr (by decide) (fun t ht hW => ⟨1, rfl, (bI_t (by have h7 := c_1; simp only [Int32.lt_iff_toInt_lt, nI_toInt (show v < 2 ^ 31 by omega), T40] at h7; omega)).symm, ht⟩) (fun q h => by cases h) d_V_isFull_14
set_option maxHeartbeats 4000000 in
set_option maxRecDepth 100000 in
theorem c_V_open (l : Launch) (D : va_G) (cs : Nat → ClassId) (N : Nat) (bk : Nat → Nat) (cw : Nat → va_E) (sz : Nat) (K K1 K2 : Nat) (hk : K < N) (v : Nat) (hv : v ≤ 40) (he : cw K = .inr (5, [.ref (bk K1), .ref (bk K2), .int (nI v)])) (mm en : Nat → Int32) (hk1 : K1 < N) (he1 : cw K1 = .inl (cs 0, 200, .inl mm)) (hk2 : K2 < N) (he2 : cw K2 = .inl (cs 0, 41, .inl en)) (n1 : K ≠ K1) (n2 : K ≠ K2) (n3 : K1 ≠ K2) : Met l y_V_open w_V_open ({ frames := 1, cells := 0, slots := 0, locals := 20 }) (va_Pc [.ref (bk (K))] (PB D classes (TY cs) N bk cw sz)) (va_Qi (fun (r : Int32) (u : Wt) => (v < 40 → r = nI v ∧ u = (N, bk, va_up (va_up cw K2 (.inl (cs 0, 41, .inl (upd en (v + 1) (en v))))) K (.inr (5, [.ref (bk K1), .ref (bk K2), .int (nI (v + 1))])))) ∧ (¬ v < 40 → r = -1 ∧ u = (N, bk, cw))) (Wd D classes (TY cs) (AA N bk sz)) (AA N bk sz)) 0 0 (AA N bk sz) := by
  refine pw_entry (cc := b_V_open) (maxL := 1) (ret := (some .int)) (by decide +kernel) rfl (Nat.le_of_ble_eq_true rfl) ?_
  intro p_ e_ s m below_ meth_ c_ ls hx hb hr hml hts hown hlocks hin hsz hP hK hD hS hA hN hl
  have hw : ∀ w ∈ WA, w.before _ s = true := fun w h => hts w (List.mem_cons_of_mem _ h)
  have hown : s.vm.findClass "IssueRows$Volumes" = some m.cls := hown
  have hl : lv_has ls 1 [(0, .ref (bk (K)))] := hl
  refine lv_aload_n hx hb d_V_open_0 rfl (lv_at hl 0 rfl) ?_
  refine pw_callSi (va_runV (As := []) (rest := []) ⟨hx, hb, hml, hown, hw⟩ (c_V_isFull l D cs N bk cw s.heap.size (K) (K1) (K2) hk v hv he mm en hk1 he1 hk2 he2) (cw_V 0 hw kM_V_22 kI_V_isFull kV_V_isFull kZ_V kC_V_isFull rfl rfl ⟨rfl, by decide, by decide, by decide +kernel⟩ ⟨Nat.le_of_ble_eq_true rfl, Nat.le_of_ble_eq_true rfl⟩) (pw_preV hN hK hP hD (K) hk he rfl) rfl rfl hl.1 rfl (lv_room (Nat.le_of_ble_eq_true rfl)) d_V_open_1 ⟨Nat.le_of_ble_eq_true rfl, Nat.le_of_ble_eq_true rfl⟩) (fun r_1 hr_1 => ?_)
  have hr_1 : r_1 = bI (40 ≤ v) := hr_1
  subst hr_1
  refine pw_ifeq (tgt := 9) hx hb d_V_open_4 (by decide) (fun c_2 => ?_) (fun c_2 => ?_)
  · have c_2 : ¬ (40 ≤ v) := c_2
    refine lv_aload_n hx hb d_V_open_9 rfl (lv_at hl 0 rfl) ?_
    refine pw_get (ci := 5) (v := .ref (bk (K2))) hx hb hw i_V hown hK hP (K) hk he rfl 1 (by decide) (hw _ kF_V_15) rfl d_V_open_10 ?_
    refine lv_aload_n hx hb d_V_open_13 rfl (lv_at hl 0 rfl) ?_
    refine pw_get (ci := 5) (v := .int (nI v)) hx hb hw i_V hown hK hP (K) hk he rfl 2 (by decide) (hw _ kF_V_18) rfl d_V_open_14 ?_
    refine lv_iconst (v := 1) hx hb d_V_open_17 (by decide) ?_
    refine lv_iadd hx hb d_V_open_18 ?_
    rw [show (nI v) + 1 = nI (v + 1) from nI_1 v]
    refine lv_aload_n hx hb d_V_open_19 rfl (lv_at hl 0 rfl) ?_
    refine pw_get (ci := 5) (v := .ref (bk (K2))) hx hb hw i_V hown hK hP (K) hk he rfl 1 (by decide) (hw _ kF_V_15) rfl d_V_open_20 ?_
    refine lv_aload_n hx hb d_V_open_23 rfl (lv_at hl 0 rfl) ?_
    refine pw_get (ci := 5) (v := .int (nI v)) hx hb hw i_V hown hK hP (K) hk he rfl 2 (by decide) (hw _ kF_V_18) rfl d_V_open_24 ?_
    refine pw_iald (n := 41) (f := en) hx hb hK hP 0 (K2) hk2 he2 rfl (v) rfl (by omega) (by decide) d_V_open_27 ?_
    refine pw_iast (n := 41) (f := en) hx hb hK hP hD hS 0 (K2) hk2 he2 rfl (v + 1) rfl (by omega) (by decide) d_V_open_28 (fun cw_3 H locs ecw_3 hP hD hS => ?_)
    have h_4 : cw_3 (K) = .inr (5, [.ref (bk (K1)), .ref (bk (K2)), .int (nI v)]) := by rw [ecw_3, va_up_ne _ _ (by omega)]; exact he
    have h_5 : cw_3 (K1) = .inl (cs 0, 200, .inl mm) := by rw [ecw_3, va_up_ne _ _ (by omega)]; exact he1
    have h_6 : cw_3 (K2) = .inl (cs 0, 41, .inl (upd en (v + 1) (en (v)))) := by rw [ecw_3]; exact va_up_self _ _ _
    refine lv_aload_n hx hb d_V_open_29 rfl (lv_at hl 0 rfl) ?_
    refine lv_dup hx hb d_V_open_30 rfl ?_
    refine pw_get (ci := 5) (v := .int (nI v)) hx hb hw i_V hown hK hP (K) hk h_4 rfl 2 (by decide) (hw _ kF_V_18) rfl d_V_open_31 ?_
    refine lv_iconst (v := 1) hx hb d_V_open_34 (by decide) ?_
    refine lv_iadd hx hb d_V_open_35 ?_
    rw [show (nI v) + 1 = nI (v + 1) from nI_1 v]
    refine pw_put (ci := 5) (v := .int (nI (v + 1))) (ty := .int) (fs' := [.ref (bk (K1)), .ref (bk (K2)), .int (nI (v + 1))]) hx hb hw i_V t_V t_V_ok n_V hown hK hP hD hS (K) hk h_4 rfl 2 (by decide) (hw _ kF_V_18) rfl (t_V_ok 2 (by decide)) rfl rfl (Nat.le_of_ble_eq_true rfl) rfl d_V_open_36 (fun cw_7 H locs ecw_7 hP hD hS => ?_)
    have h_8 : cw_7 (K) = .inr (5, [.ref (bk (K1)), .ref (bk (K2)), .int (nI (v + 1))]) := by rw [ecw_7]; exact va_up_self _ _ _
    have h_9 : cw_7 (K1) = .inl (cs 0, 200, .inl mm) := by rw [ecw_7, va_up_ne _ _ (by omega)]; exact h_5
    have h_10 : cw_7 (K2) = .inl (cs 0, 41, .inl (upd en (v + 1) (en (v)))) := by rw [ecw_7, va_up_ne _ _ (by omega)]; exact h_6
    refine lv_aload_n hx hb d_V_open_39 rfl (lv_at hl 0 rfl) ?_
    refine pw_get (ci := 5) (v := .int (nI (v + 1))) hx hb hw i_V hown hK hP (K) hk h_8 rfl 2 (by decide) (hw _ kF_V_18) rfl d_V_open_40 ?_
    refine lv_iconst (v := 1) hx hb d_V_open_43 (by decide) ?_
    refine lv_isub hx hb d_V_open_44 ?_
    rw [show (nI (v + 1)) - 1 = nI v from nI_pred v]
    exact W.iret (v := nI v) hx hb hr (fun t ht hW => ⟨⟨nI v, (N, bk, cw_7), rfl, ⟨fun _ => ⟨rfl, by rw [ecw_7, ecw_3]⟩, fun h => absurd (by omega) c_2⟩, by rw [ht]; exact hP, va_K.moved hW.alike hK, hD⟩, hS.F ht⟩) hS.2.2 d_V_open_45
  · have c_2 : 40 ≤ v := c_2
    refine lv_iconst (v := -1) hx hb d_V_open_7 (by decide) ?_
    exact W.iret (v := -1) hx hb hr (fun t ht hW => ⟨⟨-1, (N, bk, cw), rfl, ⟨fun h => absurd c_2 (by omega), fun _ => ⟨rfl, rfl⟩⟩, by rw [ht]; exact hP, va_K.moved hW.alike hK, hD⟩, hS.F ht⟩) hS.2.2 d_V_open_8
set_option maxHeartbeats 4000000 in
set_option maxRecDepth 100000 in
theorem c_V_add (l : Launch) (D : va_G) (cs : Nat → ClassId) (N : Nat) (bk : Nat → Nat) (cw : Nat → va_E) (sz : Nat) (K K1 K2 : Nat) (hk : K < N) (v : Nat) (hv : v ≤ 40) (he : cw K = .inr (5, [.ref (bk K1), .ref (bk K2), .int (nI v)])) (mm en : Nat → Int32) (hk1 : K1 < N) (he1 : cw K1 = .inl (cs 0, 200, .inl mm)) (hk2 : K2 < N) (he2 : cw K2 = .inl (cs 0, 41, .inl en)) (n1 : K ≠ K1) (n2 : K ≠ K2) (n3 : K1 ≠ K2) (hv1 : 1 ≤ v) (eb : Nat) (hee : en v = nI eb) (heb : eb < 200) (x : Int32) : Met l y_V_add w_V_add ({ frames := 1, cells := 0, slots := 0, locals := 22 }) (va_Pc [.ref (bk (K)), .int (x)] (PB D classes (TY cs) N bk cw sz)) (va_Qv (fun u : Wt => u = (N, bk, va_up (va_up cw K1 (.inl (cs 0, 200, .inl (upd mm eb x)))) K2 (.inl (cs 0, 41, .inl (upd en v (nI (eb + 1))))))) (Wd D classes (TY cs) (AA N bk sz)) (AA N bk sz)) 0 0 (AA N bk sz) := by
  refine pw_entry (cc := b_V_add) (maxL := 2) (ret := none) (by decide +kernel) rfl (Nat.le_of_ble_eq_true rfl) ?_
  intro p_ e_ s m below_ meth_ c_ ls hx hb hr hml hts hown hlocks hin hsz hP hK hD hS hA hN hl
  have hw : ∀ w ∈ WA, w.before _ s = true := fun w h => hts w (List.mem_cons_of_mem _ h)
  have hown : s.vm.findClass "IssueRows$Volumes" = some m.cls := hown
  have hl : lv_has ls 2 [(0, .ref (bk (K))), (1, .int (x))] := hl
  refine lv_aload_n hx hb d_V_add_0 rfl (lv_at hl 0 rfl) ?_
  refine pw_get (ci := 5) (v := .int (nI v)) hx hb hw i_V hown hK hP (K) hk he rfl 2 (by decide) (hw _ kF_V_18) rfl d_V_add_1 ?_
  refine lv_iconst (v := 1) hx hb d_V_add_4 (by decide) ?_
  refine lv_bipush (v := 40) hx hb d_V_add_5 (by decide) ?_
  refine pw_callSi (va_runSN (As := [.int (nI v), .int (1), .int (40)]) (rest := []) ⟨hx, hb, hml, hown, hw⟩ (c_X_within l D cs N bk cw s.heap.size (nI v) 1 40) (cw_SN 3 hw (kN_V_26 hN) kS_X_within kZ_X kC_X_within rfl rfl ⟨by decide, by decide, by decide +kernel⟩ ⟨Nat.le_of_ble_eq_true rfl, Nat.le_of_ble_eq_true rfl⟩) (pw_preS hN hK hP hD) rfl rfl hl.1 rfl (lv_room (Nat.le_of_ble_eq_true rfl)) d_V_add_7 ⟨Nat.le_of_ble_eq_true rfl, Nat.le_of_ble_eq_true rfl⟩) (fun r_1 hr_1 => ?_)
  have hr_1 : r_1 = bI (1 ≤ (nI v) ∧ (nI v) ≤ 40) := hr_1
  subst hr_1
  refine pw_ifeq (tgt := 60) hx hb d_V_add_10 (by decide) (fun c_2 => ?_) (fun c_2 => ?_)
  · have c_2 : ¬ (1 ≤ (nI v) ∧ (nI v) ≤ 40) := c_2
    exact absurd (by simp only [Int32.le_iff_toInt_le, nI_toInt (show v < 2 ^ 31 by omega), T1, T40]; omega) c_2
  · have c_2 : 1 ≤ (nI v) ∧ (nI v) ≤ 40 := c_2
    refine lv_aload_n hx hb d_V_add_13 rfl (lv_at hl 0 rfl) ?_
    refine pw_get (ci := 5) (v := .ref (bk (K2))) hx hb hw i_V hown hK hP (K) hk he rfl 1 (by decide) (hw _ kF_V_15) rfl d_V_add_14 ?_
    refine lv_aload_n hx hb d_V_add_17 rfl (lv_at hl 0 rfl) ?_
    refine pw_get (ci := 5) (v := .int (nI v)) hx hb hw i_V hown hK hP (K) hk he rfl 2 (by decide) (hw _ kF_V_18) rfl d_V_add_18 ?_
    refine pw_iald (n := 41) (f := en) hx hb hK hP 0 (K2) hk2 he2 rfl (v) rfl (by omega) (by decide) d_V_add_21 ?_
    rw [show en (v) = nI eb from hee]
    refine lv_iconst (v := 0) hx hb d_V_add_22 (by decide) ?_
    refine lv_sipush (v := 199) hx hb d_V_add_23 (by decide) ?_
    refine pw_callSi (va_runSN (As := [.int (nI eb), .int (0), .int (199)]) (rest := []) ⟨hx, hb, hml, hown, hw⟩ (c_X_within l D cs N bk cw s.heap.size (nI eb) 0 199) (cw_SN 3 hw (kN_V_26 hN) kS_X_within kZ_X kC_X_within rfl rfl ⟨by decide, by decide, by decide +kernel⟩ ⟨Nat.le_of_ble_eq_true rfl, Nat.le_of_ble_eq_true rfl⟩) (pw_preS hN hK hP hD) rfl rfl hl.1 rfl (lv_room (Nat.le_of_ble_eq_true rfl)) d_V_add_26 ⟨Nat.le_of_ble_eq_true rfl, Nat.le_of_ble_eq_true rfl⟩) (fun r_3 hr_3 => ?_)
    have hr_3 : r_3 = bI (0 ≤ (nI eb) ∧ (nI eb) ≤ 199) := hr_3
    subst hr_3
    refine pw_ifeq (tgt := 60) hx hb d_V_add_29 (by decide) (fun c_4 => ?_) (fun c_4 => ?_)
    · have c_4 : ¬ (0 ≤ (nI eb) ∧ (nI eb) ≤ 199) := c_4
      exact absurd (by simp only [Int32.le_iff_toInt_le, nI_toInt (show eb < 2 ^ 31 by omega), T0, T199]; omega) c_4
    · have c_4 : 0 ≤ (nI eb) ∧ (nI eb) ≤ 199 := c_4
      refine lv_aload_n hx hb d_V_add_32 rfl (lv_at hl 0 rfl) ?_
      refine pw_get (ci := 5) (v := .ref (bk (K1))) hx hb hw i_V hown hK hP (K) hk he rfl 0 (by decide) (hw _ kF_V_9) rfl d_V_add_33 ?_
      refine lv_aload_n hx hb d_V_add_36 rfl (lv_at hl 0 rfl) ?_
      refine pw_get (ci := 5) (v := .ref (bk (K2))) hx hb hw i_V hown hK hP (K) hk he rfl 1 (by decide) (hw _ kF_V_15) rfl d_V_add_37 ?_
      refine lv_aload_n hx hb d_V_add_40 rfl (lv_at hl 0 rfl) ?_
      refine pw_get (ci := 5) (v := .int (nI v)) hx hb hw i_V hown hK hP (K) hk he rfl 2 (by decide) (hw _ kF_V_18) rfl d_V_add_41 ?_
      refine pw_iald (n := 41) (f := en) hx hb hK hP 0 (K2) hk2 he2 rfl (v) rfl (by omega) (by decide) d_V_add_44 ?_
      rw [show en (v) = nI eb from hee]
      refine lv_iload_n hx hb d_V_add_45 rfl (lv_at hl 1 rfl) ?_
      refine pw_iast (n := 200) (f := mm) hx hb hK hP hD hS 0 (K1) hk1 he1 rfl (eb) rfl (by omega) (by decide) d_V_add_46 (fun cw_5 H locs ecw_5 hP hD hS => ?_)
      have h_6 : cw_5 (K) = .inr (5, [.ref (bk (K1)), .ref (bk (K2)), .int (nI v)]) := by rw [ecw_5, va_up_ne _ _ (by omega)]; exact he
      have h_7 : cw_5 (K1) = .inl (cs 0, 200, .inl (upd mm (eb) (x))) := by rw [ecw_5]; exact va_up_self _ _ _
      have h_8 : cw_5 (K2) = .inl (cs 0, 41, .inl en) := by rw [ecw_5, va_up_ne _ _ (by omega)]; exact he2
      refine lv_aload_n hx hb d_V_add_47 rfl (lv_at hl 0 rfl) ?_
      refine pw_get (ci := 5) (v := .ref (bk (K2))) hx hb hw i_V hown hK hP (K) hk h_6 rfl 1 (by decide) (hw _ kF_V_15) rfl d_V_add_48 ?_
      refine lv_aload_n hx hb d_V_add_51 rfl (lv_at hl 0 rfl) ?_
      refine pw_get (ci := 5) (v := .int (nI v)) hx hb hw i_V hown hK hP (K) hk h_6 rfl 2 (by decide) (hw _ kF_V_18) rfl d_V_add_52 ?_
      refine lv_dup2_11 hx hb d_V_add_55 rfl rfl ?_
      refine pw_iald (n := 41) (f := en) hx hb hK hP 0 (K2) hk2 h_8 rfl (v) rfl (by omega) (by decide) d_V_add_56 ?_
      rw [show en (v) = nI eb from hee]
      refine lv_iconst (v := 1) hx hb d_V_add_57 (by decide) ?_
      refine lv_iadd hx hb d_V_add_58 ?_
      rw [show (nI eb) + 1 = nI (eb + 1) from nI_1 eb]
      refine pw_iast (n := 41) (f := en) hx hb hK hP hD hS 0 (K2) hk2 h_8 rfl (v) rfl (by omega) (by decide) d_V_add_59 (fun cw_9 H locs ecw_9 hP hD hS => ?_)
      have h_10 : cw_9 (K) = .inr (5, [.ref (bk (K1)), .ref (bk (K2)), .int (nI v)]) := by rw [ecw_9, va_up_ne _ _ (by omega)]; exact h_6
      have h_11 : cw_9 (K1) = .inl (cs 0, 200, .inl (upd mm (eb) (x))) := by rw [ecw_9, va_up_ne _ _ (by omega)]; exact h_7
      have h_12 : cw_9 (K2) = .inl (cs 0, 41, .inl (upd en (v) (nI (eb + 1)))) := by rw [ecw_9]; exact va_up_self _ _ _
      exact W.vret hx hb hr (fun t ht hW => ⟨⟨(N, bk, cw_9), rfl, by rw [ecw_9, ecw_5], by rw [ht]; exact hP, va_K.moved hW.alike hK, hD⟩, hS.F ht⟩) hS.2.2 d_V_add_60
set_option maxHeartbeats 4000000 in
set_option maxRecDepth 100000 in
theorem c_V_has_in (l : Launch) (D : va_G) (cs : Nat → ClassId) (N : Nat) (bk : Nat → Nat) (cw : Nat → va_E) (sz : Nat) (K K1 K2 : Nat) (hk : K < N) (v : Nat) (hv : v ≤ 40) (he : cw K = .inr (5, [.ref (bk K1), .ref (bk K2), .int (nI v)])) (mm en : Nat → Int32) (hk1 : K1 < N) (he1 : cw K1 = .inl (cs 0, 200, .inl mm)) (hk2 : K2 < N) (he2 : cw K2 = .inl (cs 0, 41, .inl en)) (j : Nat) (hj : j < v) (e0 ed : Nat) (hed : e0 + ed ≤ 200) (h0 : en j = nI e0) (h1 : en (j + 1) = nI (e0 + ed)) (i : Int32) : Met l y_V_has w_V_has ({ frames := 1, cells := 0, slots := 0, locals := 22 }) (va_Pc [.ref (bk (K)), .int (nI j), .int (i)] (PB D classes (TY cs) N bk cw sz)) (vp_Si (fun r => r = bI (0 ≤ i ∧ i < nI ed))) 0 0 (fun _ => False) := by
  refine pw_entry (cc := b_V_has) (maxL := 3) (ret := (some .boolean)) (by decide +kernel) rfl (Nat.le_of_ble_eq_true rfl) ?_
  intro p_ e_ s m below_ meth_ c_ ls hx hb hr hml hts hown hlocks hin hsz hP hK hD hS hA hN hl
  have hw : ∀ w ∈ WA, w.before _ s = true := fun w h => hts w (List.mem_cons_of_mem _ h)
  have hown : s.vm.findClass "IssueRows$Volumes" = some m.cls := hown
  have hl : lv_has ls 3 [(0, .ref (bk (K))), (1, .int (nI j)), (2, .int (i))] := hl
  refine lv_iload_n hx hb d_V_has_0 rfl (lv_at hl 1 rfl) ?_
  refine lv_iconst (v := 0) hx hb d_V_has_1 (by decide) ?_
  refine lv_aload_n hx hb d_V_has_2 rfl (lv_at hl 0 rfl) ?_
  refine pw_get (ci := 5) (v := .int (nI v)) hx hb hw i_V hown hK hP (K) hk he rfl 2 (by decide) (hw _ kF_V_18) rfl d_V_has_3 ?_
  refine lv_iconst (v := 1) hx hb d_V_has_6 (by decide) ?_
  refine lv_isub hx hb d_V_has_7 ?_
  refine pw_callSi (va_runSN (As := [.int (nI j), .int (0), .int ((nI v) - 1)]) (rest := []) ⟨hx, hb, hml, hown, hw⟩ (c_X_within l D cs N bk cw s.heap.size (nI j) 0 ((nI v) - 1)) (cw_SN 3 hw (kN_V_26 hN) kS_X_within kZ_X kC_X_within rfl rfl ⟨by decide, by decide, by decide +kernel⟩ ⟨Nat.le_of_ble_eq_true rfl, Nat.le_of_ble_eq_true rfl⟩) (pw_preS hN hK hP hD) rfl rfl hl.1 rfl (lv_room (Nat.le_of_ble_eq_true rfl)) d_V_has_8 ⟨Nat.le_of_ble_eq_true rfl, Nat.le_of_ble_eq_true rfl⟩) (fun r_1 hr_1 => ?_)
  have hr_1 : r_1 = bI (0 ≤ (nI j) ∧ (nI j) ≤ ((nI v) - 1)) := hr_1
  subst hr_1
  refine pw_ifeq (tgt := 43) hx hb d_V_has_11 (by decide) (fun c_2 => ?_) (fun c_2 => ?_)
  · have c_2 : ¬ (0 ≤ (nI j) ∧ (nI j) ≤ ((nI v) - 1)) := c_2
    exact absurd ⟨nI_pos' (by omega), (le_pr (by omega)).mpr ((nI_ltI (by omega) (by omega)).mpr hj)⟩ c_2
  · have c_2 : 0 ≤ (nI j) ∧ (nI j) ≤ ((nI v) - 1) := c_2
    refine lv_iload_n hx hb d_V_has_14 rfl (lv_at hl 2 rfl) ?_
    refine lv_iconst (v := 0) hx hb d_V_has_15 (by decide) ?_
    refine lv_aload_n hx hb d_V_has_16 rfl (lv_at hl 0 rfl) ?_
    refine pw_get (ci := 5) (v := .ref (bk (K2))) hx hb hw i_V hown hK hP (K) hk he rfl 1 (by decide) (hw _ kF_V_15) rfl d_V_has_17 ?_
    refine lv_iload_n hx hb d_V_has_20 rfl (lv_at hl 1 rfl) ?_
    refine lv_iconst (v := 1) hx hb d_V_has_21 (by decide) ?_
    refine lv_iadd hx hb d_V_has_22 ?_
    rw [show (nI j) + 1 = nI (j + 1) from nI_1 j]
    refine pw_iald (n := 41) (f := en) hx hb hK hP 0 (K2) hk2 he2 rfl (j + 1) rfl (by omega) (by decide) d_V_has_23 ?_
    rw [show en (j + 1) = nI (e0 + ed) from h1]
    refine lv_aload_n hx hb d_V_has_24 rfl (lv_at hl 0 rfl) ?_
    refine pw_get (ci := 5) (v := .ref (bk (K2))) hx hb hw i_V hown hK hP (K) hk he rfl 1 (by decide) (hw _ kF_V_15) rfl d_V_has_25 ?_
    refine lv_iload_n hx hb d_V_has_28 rfl (lv_at hl 1 rfl) ?_
    refine pw_iald (n := 41) (f := en) hx hb hK hP 0 (K2) hk2 he2 rfl (j) rfl (by omega) (by decide) d_V_has_29 ?_
    rw [show en (j) = nI e0 from h0]
    refine lv_isub hx hb d_V_has_30 ?_
    rw [show (nI (e0 + ed)) - (nI e0) = nI ed from by rw [pk_sub (by omega)]; congr 1; omega]
    refine lv_iconst (v := 1) hx hb d_V_has_31 (by decide) ?_
    refine lv_isub hx hb d_V_has_32 ?_
    refine pw_callSi (va_runSN (As := [.int (i), .int (0), .int ((nI ed) - 1)]) (rest := []) ⟨hx, hb, hml, hown, hw⟩ (c_X_within l D cs N bk cw s.heap.size i 0 ((nI ed) - 1)) (cw_SN 3 hw (kN_V_26 hN) kS_X_within kZ_X kC_X_within rfl rfl ⟨by decide, by decide, by decide +kernel⟩ ⟨Nat.le_of_ble_eq_true rfl, Nat.le_of_ble_eq_true rfl⟩) (pw_preS hN hK hP hD) rfl rfl hl.1 rfl (lv_room (Nat.le_of_ble_eq_true rfl)) d_V_has_33 ⟨Nat.le_of_ble_eq_true rfl, Nat.le_of_ble_eq_true rfl⟩) (fun r_3 hr_3 => ?_)
    have hr_3 : r_3 = bI (0 ≤ i ∧ i ≤ ((nI ed) - 1)) := hr_3
    subst hr_3
    refine pw_ifeq (tgt := 43) hx hb d_V_has_36 (by decide) (fun c_4 => ?_) (fun c_4 => ?_)
    · have c_4 : ¬ (0 ≤ i ∧ i ≤ ((nI ed) - 1)) := c_4
      refine lv_iconst (v := 0) hx hb d_V_has_43 (by decide) ?_
      exact W.zret (v := 0) (ty := .boolean) hx hb hr (by decide) (fun t ht hW => ⟨0, rfl, (bI_f (fun h => c_4 ⟨h.1, (le_pr (by omega)).mpr h.2⟩)).symm, ht⟩) (fun q h => by cases h) d_V_has_44
    · have c_4 : 0 ≤ i ∧ i ≤ ((nI ed) - 1) := c_4
      refine lv_iconst (v := 1) hx hb d_V_has_39 (by decide) ?_
      refine lv_goto (tgt := 44) hx hb d_V_has_40 (by decide) ?_
      exact W.zret (v := 1) (ty := .boolean) hx hb hr (by decide) (fun t ht hW => ⟨1, rfl, (bI_t ⟨c_4.1, (le_pr (by omega)).mp c_4.2⟩).symm, ht⟩) (fun q h => by cases h) d_V_has_44
set_option maxHeartbeats 4000000 in
set_option maxRecDepth 100000 in
theorem c_V_has_out (l : Launch) (D : va_G) (cs : Nat → ClassId) (N : Nat) (bk : Nat → Nat) (cw : Nat → va_E) (sz : Nat) (K K1 K2 : Nat) (hk : K < N) (v : Nat) (hv : v ≤ 40) (he : cw K = .inr (5, [.ref (bk K1), .ref (bk K2), .int (nI v)])) (mm en : Nat → Int32) (hk1 : K1 < N) (he1 : cw K1 = .inl (cs 0, 200, .inl mm)) (hk2 : K2 < N) (he2 : cw K2 = .inl (cs 0, 41, .inl en)) (a i : Int32) (ha : ¬ (0 ≤ a ∧ a < nI v)) : Met l y_V_has w_V_has ({ frames := 1, cells := 0, slots := 0, locals := 22 }) (va_Pc [.ref (bk (K)), .int (a), .int (i)] (PB D classes (TY cs) N bk cw sz)) (vp_Si (fun r => r = 0)) 0 0 (fun _ => False) := by
  refine pw_entry (cc := b_V_has) (maxL := 3) (ret := (some .boolean)) (by decide +kernel) rfl (Nat.le_of_ble_eq_true rfl) ?_
  intro p_ e_ s m below_ meth_ c_ ls hx hb hr hml hts hown hlocks hin hsz hP hK hD hS hA hN hl
  have hw : ∀ w ∈ WA, w.before _ s = true := fun w h => hts w (List.mem_cons_of_mem _ h)
  have hown : s.vm.findClass "IssueRows$Volumes" = some m.cls := hown
  have hl : lv_has ls 3 [(0, .ref (bk (K))), (1, .int (a)), (2, .int (i))] := hl
  refine lv_iload_n hx hb d_V_has_0 rfl (lv_at hl 1 rfl) ?_
  refine lv_iconst (v := 0) hx hb d_V_has_1 (by decide) ?_
  refine lv_aload_n hx hb d_V_has_2 rfl (lv_at hl 0 rfl) ?_
  refine pw_get (ci := 5) (v := .int (nI v)) hx hb hw i_V hown hK hP (K) hk he rfl 2 (by decide) (hw _ kF_V_18) rfl d_V_has_3 ?_
  refine lv_iconst (v := 1) hx hb d_V_has_6 (by decide) ?_
  refine lv_isub hx hb d_V_has_7 ?_
  refine pw_callSi (va_runSN (As := [.int (a), .int (0), .int ((nI v) - 1)]) (rest := []) ⟨hx, hb, hml, hown, hw⟩ (c_X_within l D cs N bk cw s.heap.size a 0 ((nI v) - 1)) (cw_SN 3 hw (kN_V_26 hN) kS_X_within kZ_X kC_X_within rfl rfl ⟨by decide, by decide, by decide +kernel⟩ ⟨Nat.le_of_ble_eq_true rfl, Nat.le_of_ble_eq_true rfl⟩) (pw_preS hN hK hP hD) rfl rfl hl.1 rfl (lv_room (Nat.le_of_ble_eq_true rfl)) d_V_has_8 ⟨Nat.le_of_ble_eq_true rfl, Nat.le_of_ble_eq_true rfl⟩) (fun r_1 hr_1 => ?_)
  have hr_1 : r_1 = bI (0 ≤ a ∧ a ≤ ((nI v) - 1)) := hr_1
  subst hr_1
  refine pw_ifeq (tgt := 43) hx hb d_V_has_11 (by decide) (fun c_2 => ?_) (fun c_2 => ?_)
  · have c_2 : ¬ (0 ≤ a ∧ a ≤ ((nI v) - 1)) := c_2
    refine lv_iconst (v := 0) hx hb d_V_has_43 (by decide) ?_
    exact W.zret (v := 0) (ty := .boolean) hx hb hr (by decide) (fun t ht hW => ⟨0, rfl, rfl, ht⟩) (fun q h => by cases h) d_V_has_44
  · have c_2 : 0 ≤ a ∧ a ≤ ((nI v) - 1) := c_2
    exact absurd ⟨c_2.1, (le_pr (by omega)).mp c_2.2⟩ ha
set_option maxHeartbeats 4000000 in
set_option maxRecDepth 100000 in
theorem c_V_member (l : Launch) (D : va_G) (cs : Nat → ClassId) (N : Nat) (bk : Nat → Nat) (cw : Nat → va_E) (sz : Nat) (K K1 K2 : Nat) (hk : K < N) (v : Nat) (hv : v ≤ 40) (he : cw K = .inr (5, [.ref (bk K1), .ref (bk K2), .int (nI v)])) (mm en : Nat → Int32) (hk1 : K1 < N) (he1 : cw K1 = .inl (cs 0, 200, .inl mm)) (hk2 : K2 < N) (he2 : cw K2 = .inl (cs 0, 41, .inl en)) (j : Nat) (hj : j < v) (e0 ed : Nat) (hed : e0 + ed ≤ 200) (h0 : en j = nI e0) (h1 : en (j + 1) = nI (e0 + ed)) (k : Nat) (hk9 : k < ed) : Met l y_V_member w_V_member ({ frames := 2, cells := 0, slots := 0, locals := 44 }) (va_Pc [.ref (bk (K)), .int (nI j), .int (nI k)] (PB D classes (TY cs) N bk cw sz)) (vp_Si (fun r => r = mm (e0 + k))) 0 0 (fun _ => False) := by
  refine pw_entry (cc := b_V_member) (maxL := 3) (ret := (some .int)) (by decide +kernel) rfl (Nat.le_of_ble_eq_true rfl) ?_
  intro p_ e_ s m below_ meth_ c_ ls hx hb hr hml hts hown hlocks hin hsz hP hK hD hS hA hN hl
  have hw : ∀ w ∈ WA, w.before _ s = true := fun w h => hts w (List.mem_cons_of_mem _ h)
  have hown : s.vm.findClass "IssueRows$Volumes" = some m.cls := hown
  have hl : lv_has ls 3 [(0, .ref (bk (K))), (1, .int (nI j)), (2, .int (nI k))] := hl
  refine lv_aload_n hx hb d_V_member_0 rfl (lv_at hl 0 rfl) ?_
  refine lv_iload_n hx hb d_V_member_1 rfl (lv_at hl 1 rfl) ?_
  refine lv_iload_n hx hb d_V_member_2 rfl (lv_at hl 2 rfl) ?_
  refine pw_callSi (va_runV (As := [.int (nI j), .int (nI k)]) (rest := []) ⟨hx, hb, hml, hown, hw⟩ (c_V_has_in l D cs N bk cw s.heap.size (K) (K1) (K2) hk v hv he mm en hk1 he1 hk2 he2 j hj e0 ed hed h0 h1 (nI k)) (cw_V 2 hw kM_V_30 kI_V_has kV_V_has kZ_V kC_V_has rfl rfl ⟨rfl, by decide, by decide, by decide +kernel⟩ ⟨Nat.le_of_ble_eq_true rfl, Nat.le_of_ble_eq_true rfl⟩) (pw_preV hN hK hP hD (K) hk he rfl) rfl rfl hl.1 rfl (lv_room (Nat.le_of_ble_eq_true rfl)) d_V_member_3 ⟨Nat.le_of_ble_eq_true rfl, Nat.le_of_ble_eq_true rfl⟩) (fun r_1 hr_1 => ?_)
  have hr_1 : r_1 = bI (0 ≤ nI k ∧ nI k < nI ed) := hr_1
  subst hr_1
  refine pw_ifeq (tgt := 25) hx hb d_V_member_6 (by decide) (fun c_2 => ?_) (fun c_2 => ?_)
  · have c_2 : ¬ (0 ≤ nI k ∧ nI k < nI ed) := c_2
    exact absurd ⟨nI_pos' (by omega), (nI_ltI (by omega) (by omega)).mpr hk9⟩ c_2
  · have c_2 : 0 ≤ nI k ∧ nI k < nI ed := c_2
    refine lv_aload_n hx hb d_V_member_9 rfl (lv_at hl 0 rfl) ?_
    refine pw_get (ci := 5) (v := .ref (bk (K1))) hx hb hw i_V hown hK hP (K) hk he rfl 0 (by decide) (hw _ kF_V_9) rfl d_V_member_10 ?_
    refine lv_aload_n hx hb d_V_member_13 rfl (lv_at hl 0 rfl) ?_
    refine pw_get (ci := 5) (v := .ref (bk (K2))) hx hb hw i_V hown hK hP (K) hk he rfl 1 (by decide) (hw _ kF_V_15) rfl d_V_member_14 ?_
    refine lv_iload_n hx hb d_V_member_17 rfl (lv_at hl 1 rfl) ?_
    refine pw_iald (n := 41) (f := en) hx hb hK hP 0 (K2) hk2 he2 rfl (j) rfl (by omega) (by decide) d_V_member_18 ?_
    rw [show en (j) = nI e0 from h0]
    refine lv_iload_n hx hb d_V_member_19 rfl (lv_at hl 2 rfl) ?_
    refine lv_iadd hx hb d_V_member_20 ?_
    rw [show (nI e0) + (nI k) = nI (e0 + k) from nI_add e0 k]
    refine pw_iald (n := 200) (f := mm) hx hb hK hP 0 (K1) hk1 he1 rfl (e0 + k) rfl (by omega) (by decide) d_V_member_21 ?_
    refine lv_goto (tgt := 26) hx hb d_V_member_22 (by decide) ?_
    exact W.iret (v := mm (e0 + k)) hx hb hr (fun t ht hW => ⟨mm (e0 + k), rfl, rfl, ht⟩) (fun q h => by cases h) d_V_member_26
