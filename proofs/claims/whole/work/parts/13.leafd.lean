set_option maxHeartbeats 4000000 in
set_option maxRecDepth 100000 in
theorem c_S_clear (l : Launch) (D : va_G) (cs : Nat → ClassId) (N : Nat) (bk : Nat → Nat) (cw : Nat → va_E) (sz : Nat) (K K1 K2 K3 : Nat) (hk : K < N) (zz : Int32) (he : cw K = .inr (6, [.ref (bk K1), .ref (bk K2), .ref (bk K3), .int zz])) : Met l y_S_clear w_S_clear ({ frames := 0, cells := 0, slots := 0, locals := 0 }) (va_Pc [.ref (bk (K))] (PB D classes (TY cs) N bk cw sz)) (va_Qv (fun u : Wt => u = (N, bk, va_up cw K (.inr (6, [.ref (bk K1), .ref (bk K2), .ref (bk K3), .int 0])))) (Wd D classes (TY cs) (AA N bk sz)) (AA N bk sz)) 0 0 (AA N bk sz) := by
  refine pw_entry (cc := b_S_clear) (maxL := 1) (ret := none) (by decide +kernel) rfl (Nat.le_of_ble_eq_true rfl) ?_
  intro p_ e_ s m below_ meth_ c_ ls hx hb hr hml hts hown hlocks hin hsz hP hK hD hS hA hN hl
  have hw : ∀ w ∈ WA, w.before _ s = true := fun w h => hts w (List.mem_cons_of_mem _ h)
  have hown : s.vm.findClass "IssueRows$Statement" = some m.cls := hown
  have hl : lv_has ls 1 [(0, .ref (bk (K)))] := hl
  refine lv_aload_n hx hb d_S_clear_0 rfl (lv_at hl 0 rfl) ?_
  refine lv_iconst (v := 0) hx hb d_S_clear_1 (by decide) ?_
  refine pw_put (ci := 6) (v := .int (0)) (ty := .int) (fs' := [.ref (bk (K1)), .ref (bk (K2)), .ref (bk (K3)), .int (0)]) hx hb hw i_S t_S t_S_ok n_S hown hK hP hD hS (K) hk he rfl 3 (by decide) (hw _ kF_S_21) rfl (t_S_ok 3 (by decide)) rfl rfl (Nat.le_of_ble_eq_true rfl) rfl d_S_clear_2 (fun cw_1 H locs ecw_1 hP hD hS => ?_)
  have h_2 : cw_1 (K) = .inr (6, [.ref (bk (K1)), .ref (bk (K2)), .ref (bk (K3)), .int (0)]) := by rw [ecw_1]; exact va_up_self _ _ _
  exact W.vret hx hb hr (fun t ht hW => ⟨⟨(N, bk, cw_1), rfl, by rw [ecw_1], by rw [ht]; exact hP, va_K.moved hW.alike hK, hD⟩, hS.F ht⟩) hS.2.2 d_S_clear_5
set_option maxHeartbeats 4000000 in
set_option maxRecDepth 100000 in
theorem c_S_has (l : Launch) (D : va_G) (cs : Nat → ClassId) (N : Nat) (bk : Nat → Nat) (cw : Nat → va_E) (sz : Nat) (K K1 K2 K3 : Nat) (hk : K < N) (z : Nat) (he : cw K = .inr (6, [.ref (bk K1), .ref (bk K2), .ref (bk K3), .int (nI z)])) (hz : z ≤ 200) (f1 f2 f3 : Nat → Int32) (hk1 : K1 < N) (he1 : cw K1 = .inl (cs 0, 200, .inl f1)) (hk2 : K2 < N) (he2 : cw K2 = .inl (cs 0, 200, .inl f2)) (hk3 : K3 < N) (he3 : cw K3 = .inl (cs 0, 200, .inl f3)) (i what : Int32) : Met l y_S_has w_S_has ({ frames := 1, cells := 0, slots := 0, locals := 22 }) (va_Pc [.ref (bk (K)), .int (i), .int (what)] (PB D classes (TY cs) N bk cw sz)) (vp_Si (fun r => r = bI ((0 ≤ i ∧ i < nI z) ∧ 0 ≤ what ∧ what ≤ 3))) 0 0 (fun _ => False) := by
  refine pw_entry (cc := b_S_has) (maxL := 3) (ret := (some .boolean)) (by decide +kernel) rfl (Nat.le_of_ble_eq_true rfl) ?_
  intro p_ e_ s m below_ meth_ c_ ls hx hb hr hml hts hown hlocks hin hsz hP hK hD hS hA hN hl
  have hw : ∀ w ∈ WA, w.before _ s = true := fun w h => hts w (List.mem_cons_of_mem _ h)
  have hown : s.vm.findClass "IssueRows$Statement" = some m.cls := hown
  have hl : lv_has ls 3 [(0, .ref (bk (K))), (1, .int (i)), (2, .int (what))] := hl
  refine lv_iload_n hx hb d_S_has_0 rfl (lv_at hl 1 rfl) ?_
  refine lv_iconst (v := 0) hx hb d_S_has_1 (by decide) ?_
  refine lv_aload_n hx hb d_S_has_2 rfl (lv_at hl 0 rfl) ?_
  refine pw_get (ci := 6) (v := .int (nI z)) hx hb hw i_S hown hK hP (K) hk he rfl 3 (by decide) (hw _ kF_S_21) rfl d_S_has_3 ?_
  refine lv_iconst (v := 1) hx hb d_S_has_6 (by decide) ?_
  refine lv_isub hx hb d_S_has_7 ?_
  refine pw_callSi (va_runSN (As := [.int (i), .int (0), .int ((nI z) - 1)]) (rest := []) ⟨hx, hb, hml, hown, hw⟩ (c_X_within l D cs N bk cw s.heap.size i 0 ((nI z) - 1)) (cw_SN 3 hw (kN_S_25 hN) kS_X_within kZ_X kC_X_within rfl rfl ⟨by decide, by decide, by decide +kernel⟩ ⟨Nat.le_of_ble_eq_true rfl, Nat.le_of_ble_eq_true rfl⟩) (pw_preS hN hK hP hD) rfl rfl hl.1 rfl (lv_room (Nat.le_of_ble_eq_true rfl)) d_S_has_8 ⟨Nat.le_of_ble_eq_true rfl, Nat.le_of_ble_eq_true rfl⟩) (fun r_1 hr_1 => ?_)
  have hr_1 : r_1 = bI (0 ≤ i ∧ i ≤ ((nI z) - 1)) := hr_1
  subst hr_1
  refine pw_ifeq (tgt := 27) hx hb d_S_has_11 (by decide) (fun c_2 => ?_) (fun c_2 => ?_)
  · have c_2 : ¬ (0 ≤ i ∧ i ≤ ((nI z) - 1)) := c_2
    refine lv_iconst (v := 0) hx hb d_S_has_27 (by decide) ?_
    exact W.zret (v := 0) (ty := .boolean) hx hb hr (by decide) (fun t ht hW => ⟨0, rfl, (bI_f (fun h => c_2 ⟨h.1.1, (le_pr (by omega)).mpr h.1.2⟩)).symm, ht⟩) (fun q h => by cases h) d_S_has_28
  · have c_2 : 0 ≤ i ∧ i ≤ ((nI z) - 1) := c_2
    refine lv_iload_n hx hb d_S_has_14 rfl (lv_at hl 2 rfl) ?_
    refine lv_iconst (v := 0) hx hb d_S_has_15 (by decide) ?_
    refine lv_iconst (v := 3) hx hb d_S_has_16 (by decide) ?_
    refine pw_callSi (va_runSN (As := [.int (what), .int (0), .int (3)]) (rest := []) ⟨hx, hb, hml, hown, hw⟩ (c_X_within l D cs N bk cw s.heap.size what 0 3) (cw_SN 3 hw (kN_S_25 hN) kS_X_within kZ_X kC_X_within rfl rfl ⟨by decide, by decide, by decide +kernel⟩ ⟨Nat.le_of_ble_eq_true rfl, Nat.le_of_ble_eq_true rfl⟩) (pw_preS hN hK hP hD) rfl rfl hl.1 rfl (lv_room (Nat.le_of_ble_eq_true rfl)) d_S_has_17 ⟨Nat.le_of_ble_eq_true rfl, Nat.le_of_ble_eq_true rfl⟩) (fun r_3 hr_3 => ?_)
    have hr_3 : r_3 = bI (0 ≤ what ∧ what ≤ 3) := hr_3
    subst hr_3
    refine pw_ifeq (tgt := 27) hx hb d_S_has_20 (by decide) (fun c_4 => ?_) (fun c_4 => ?_)
    · have c_4 : ¬ (0 ≤ what ∧ what ≤ 3) := c_4
      refine lv_iconst (v := 0) hx hb d_S_has_27 (by decide) ?_
      exact W.zret (v := 0) (ty := .boolean) hx hb hr (by decide) (fun t ht hW => ⟨0, rfl, (bI_f (fun h => c_4 h.2)).symm, ht⟩) (fun q h => by cases h) d_S_has_28
    · have c_4 : 0 ≤ what ∧ what ≤ 3 := c_4
      refine lv_iconst (v := 1) hx hb d_S_has_23 (by decide) ?_
      refine lv_goto (tgt := 28) hx hb d_S_has_24 (by decide) ?_
      exact W.zret (v := 1) (ty := .boolean) hx hb hr (by decide) (fun t ht hW => ⟨1, rfl, (bI_t ⟨⟨c_2.1, (le_pr (by omega)).mp c_2.2⟩, c_4⟩).symm, ht⟩) (fun q h => by cases h) d_S_has_28
set_option maxHeartbeats 4000000 in
set_option maxRecDepth 100000 in
theorem c_S_part (l : Launch) (D : va_G) (cs : Nat → ClassId) (N : Nat) (bk : Nat → Nat) (cw : Nat → va_E) (sz : Nat) (K K1 K2 K3 : Nat) (hk : K < N) (z : Nat) (he : cw K = .inr (6, [.ref (bk K1), .ref (bk K2), .ref (bk K3), .int (nI z)])) (hz : z ≤ 200) (f1 f2 f3 : Nat → Int32) (hk1 : K1 < N) (he1 : cw K1 = .inl (cs 0, 200, .inl f1)) (hk2 : K2 < N) (he2 : cw K2 = .inl (cs 0, 200, .inl f2)) (hk3 : K3 < N) (he3 : cw K3 = .inl (cs 0, 200, .inl f3)) (j : Nat) (hj : j < z) (what : Int32) (hq : 0 ≤ what ∧ what ≤ 3) : Met l y_S_part w_S_part ({ frames := 2, cells := 0, slots := 0, locals := 44 }) (va_Pc [.ref (bk (K)), .int (nI j), .int (what)] (PB D classes (TY cs) N bk cw sz)) (vp_Si (fun r => r = if what = 0 then f1 j else if what = 1 then f2 j else if what = 2 then f3 j else if j + 1 < z then 1 else 0)) 0 0 (fun _ => False) := by
  refine pw_entry (cc := b_S_part) (maxL := 3) (ret := (some .int)) (by decide +kernel) rfl (Nat.le_of_ble_eq_true rfl) ?_
  intro p_ e_ s m below_ meth_ c_ ls hx hb hr hml hts hown hlocks hin hsz hP hK hD hS hA hN hl
  have hw : ∀ w ∈ WA, w.before _ s = true := fun w h => hts w (List.mem_cons_of_mem _ h)
  have hown : s.vm.findClass "IssueRows$Statement" = some m.cls := hown
  have hl : lv_has ls 3 [(0, .ref (bk (K))), (1, .int (nI j)), (2, .int (what))] := hl
  refine lv_aload_n hx hb d_S_part_0 rfl (lv_at hl 0 rfl) ?_
  refine lv_iload_n hx hb d_S_part_1 rfl (lv_at hl 1 rfl) ?_
  refine lv_iload_n hx hb d_S_part_2 rfl (lv_at hl 2 rfl) ?_
  refine pw_callSi (va_runV (As := [.int (nI j), .int (what)]) (rest := []) ⟨hx, hb, hml, hown, hw⟩ (c_S_has l D cs N bk cw s.heap.size (K) (K1) (K2) (K3) hk z he hz f1 f2 f3 hk1 he1 hk2 he2 hk3 he3 (nI j) what) (cw_V 2 hw kM_S_29 kI_S_has kV_S_has kZ_S kC_S_has rfl rfl ⟨rfl, by decide, by decide, by decide +kernel⟩ ⟨Nat.le_of_ble_eq_true rfl, Nat.le_of_ble_eq_true rfl⟩) (pw_preV hN hK hP hD (K) hk he rfl) rfl rfl hl.1 rfl (lv_room (Nat.le_of_ble_eq_true rfl)) d_S_part_3 ⟨Nat.le_of_ble_eq_true rfl, Nat.le_of_ble_eq_true rfl⟩) (fun r_1 hr_1 => ?_)
  have hr_1 : r_1 = bI ((0 ≤ (nI j) ∧ (nI j) < nI z) ∧ 0 ≤ what ∧ what ≤ 3) := hr_1
  subst hr_1
  refine pw_ifne (tgt := 11) hx hb d_S_part_6 (by decide) (fun c_2 => ?_) (fun c_2 => ?_)
  · have c_2 : (0 ≤ (nI j) ∧ (nI j) < nI z) ∧ 0 ≤ what ∧ what ≤ 3 := c_2
    refine lv_iload_n hx hb d_S_part_11 rfl (lv_at hl 2 rfl) ?_
    by_cases c_3 : what = 0
    · refine lv_tableIn (off := 28) (tgt := 40) hx hb d_S_part_12 (by rw [c_3]; decide) (by rw [c_3]; decide) (by rw [c_3]; rfl) (by decide) ?_
      refine lv_aload_n hx hb d_S_part_40 rfl (lv_at hl 0 rfl) ?_
      refine pw_get (ci := 6) (v := .ref (bk (K1))) hx hb hw i_S hown hK hP (K) hk he rfl 0 (by decide) (hw _ kF_S_9) rfl d_S_part_41 ?_
      refine lv_iload_n hx hb d_S_part_44 rfl (lv_at hl 1 rfl) ?_
      refine pw_iald (n := 200) (f := f1) hx hb hK hP 0 (K1) hk1 he1 rfl (j) rfl (by omega) (by decide) d_S_part_45 ?_
      exact W.iret (v := f1 (j)) hx hb hr (fun t ht hW => ⟨f1 (j), rfl, (by rw [if_pos c_3]), ht⟩) (fun q h => by cases h) d_S_part_46
    by_cases c_4 : what = 1
    · refine lv_tableIn (off := 35) (tgt := 47) hx hb d_S_part_12 (by rw [c_4]; decide) (by rw [c_4]; decide) (by rw [c_4]; rfl) (by decide) ?_
      refine lv_aload_n hx hb d_S_part_47 rfl (lv_at hl 0 rfl) ?_
      refine pw_get (ci := 6) (v := .ref (bk (K2))) hx hb hw i_S hown hK hP (K) hk he rfl 1 (by decide) (hw _ kF_S_15) rfl d_S_part_48 ?_
      refine lv_iload_n hx hb d_S_part_51 rfl (lv_at hl 1 rfl) ?_
      refine pw_iald (n := 200) (f := f2) hx hb hK hP 0 (K2) hk2 he2 rfl (j) rfl (by omega) (by decide) d_S_part_52 ?_
      exact W.iret (v := f2 (j)) hx hb hr (fun t ht hW => ⟨f2 (j), rfl, (by rw [if_neg c_3, if_pos c_4]), ht⟩) (fun q h => by cases h) d_S_part_53
    by_cases c_5 : what = 2
    · refine lv_tableIn (off := 42) (tgt := 54) hx hb d_S_part_12 (by rw [c_5]; decide) (by rw [c_5]; decide) (by rw [c_5]; rfl) (by decide) ?_
      refine lv_aload_n hx hb d_S_part_54 rfl (lv_at hl 0 rfl) ?_
      refine pw_get (ci := 6) (v := .ref (bk (K3))) hx hb hw i_S hown hK hP (K) hk he rfl 2 (by decide) (hw _ kF_S_18) rfl d_S_part_55 ?_
      refine lv_iload_n hx hb d_S_part_58 rfl (lv_at hl 1 rfl) ?_
      refine pw_iald (n := 200) (f := f3) hx hb hK hP 0 (K3) hk3 he3 rfl (j) rfl (by omega) (by decide) d_S_part_59 ?_
      exact W.iret (v := f3 (j)) hx hb hr (fun t ht hW => ⟨f3 (j), rfl, (by rw [if_neg c_3, if_neg c_4, if_pos c_5]), ht⟩) (fun q h => by cases h) d_S_part_60
    refine lv_tableOut (tgt := 61) hx hb d_S_part_12 (by simp only [Int32.lt_iff_toInt_lt, Int32.le_iff_toInt_le, ← Int32.toInt_inj, T0, T1, T2, T3, T4, T5, T6, T7, T8, T9, T10, T40, T50, T99, T100, T199, T200, T999, T1000, T9999, T1000000, T10000000, T1000000000, Tm1] at c_3 c_4 c_5; omega) (by decide) ?_
    refine lv_iload_n hx hb d_S_part_61 rfl (lv_at hl 1 rfl) ?_
    refine lv_aload_n hx hb d_S_part_62 rfl (lv_at hl 0 rfl) ?_
    refine pw_get (ci := 6) (v := .int (nI z)) hx hb hw i_S hown hK hP (K) hk he rfl 3 (by decide) (hw _ kF_S_21) rfl d_S_part_63 ?_
    refine lv_iconst (v := 1) hx hb d_S_part_66 (by decide) ?_
    refine lv_isub hx hb d_S_part_67 ?_
    refine lv_icmp_ge (tgt := 75) hx hb d_S_part_68 (by decide) (fun c_6 => ?_) (fun c_6 => ?_)
    · have c_6 : ((nI z) - 1) ≤ (nI j) := c_6
      refine lv_iconst (v := 0) hx hb d_S_part_75 (by decide) ?_
      exact W.iret (v := 0) hx hb hr (fun t ht hW => ⟨0, rfl, (by rw [if_neg c_3, if_neg c_4, if_neg c_5, if_neg (by have h7 := c_6; rw [le_pq (by omega)] at h7; omega)]), ht⟩) (fun q h => by cases h) d_S_part_76
    · have c_6 : ¬ ((nI z) - 1) ≤ (nI j) := c_6
      refine lv_iconst (v := 1) hx hb d_S_part_71 (by decide) ?_
      refine lv_goto (tgt := 76) hx hb d_S_part_72 (by decide) ?_
      exact W.iret (v := 1) hx hb hr (fun t ht hW => ⟨1, rfl, (by rw [if_neg c_3, if_neg c_4, if_neg c_5, if_pos (by have h7 := c_6; rw [le_pq (by omega)] at h7; omega)]), ht⟩) (fun q h => by cases h) d_S_part_76
  · have c_2 : ¬ ((0 ≤ (nI j) ∧ (nI j) < nI z) ∧ 0 ≤ what ∧ what ≤ 3) := c_2
    exact absurd ⟨⟨nI_pos' (by omega), (nI_ltI (by omega) (by omega)).mpr hj⟩, hq⟩ c_2
set_option maxHeartbeats 4000000 in
set_option maxRecDepth 100000 in
theorem c_S_add1 (l : Launch) (D : va_G) (cs : Nat → ClassId) (N : Nat) (bk : Nat → Nat) (cw : Nat → va_E) (sz : Nat) (K K1 K2 K3 : Nat) (hk : K < N) (z : Nat) (he : cw K = .inr (6, [.ref (bk K1), .ref (bk K2), .ref (bk K3), .int (nI z)])) (hz : z ≤ 200) (f1 f2 f3 : Nat → Int32) (hk1 : K1 < N) (he1 : cw K1 = .inl (cs 0, 200, .inl f1)) (hk2 : K2 < N) (he2 : cw K2 = .inl (cs 0, 200, .inl f2)) (hk3 : K3 < N) (he3 : cw K3 = .inl (cs 0, 200, .inl f3)) (n1 : K ≠ K1) (n2 : K ≠ K2) (n3 : K ≠ K3) (n4 : K1 ≠ K2) (n5 : K1 ≠ K3) (n6 : K2 ≠ K3) (x nr : Int32) (hnr : ¬ nr = 0) (hz1 : z < 200) : Met l y_S_add w_S_add ({ frames := 0, cells := 0, slots := 0, locals := 0 }) (va_Pc [.ref (bk (K)), .int (x), .int (nr)] (PB D classes (TY cs) N bk cw sz)) (va_Qv (fun u : Wt => u = (N, bk, va_up (va_up (va_up (va_up (va_up cw K1 (.inl (cs 0, 200, .inl (upd f1 z x)))) K3 (.inl (cs 0, 200, .inl (upd f3 z 0)))) K (.inr (6, [.ref (bk K1), .ref (bk K2), .ref (bk K3), .int (nI (z + 1))]))) K2 (.inl (cs 0, 200, .inl (upd f2 z x)))) K3 (.inl (cs 0, 200, .inl (upd (upd f3 z 0) z (upd f3 z 0 z + 1)))))) (Wd D classes (TY cs) (AA N bk sz)) (AA N bk sz)) 0 0 (AA N bk sz) := by
  refine pw_entry (cc := b_S_add) (maxL := 3) (ret := none) (by decide +kernel) rfl (Nat.le_of_ble_eq_true rfl) ?_
  intro p_ e_ s m below_ meth_ c_ ls hx hb hr hml hts hown hlocks hin hsz hP hK hD hS hA hN hl
  have hw : ∀ w ∈ WA, w.before _ s = true := fun w h => hts w (List.mem_cons_of_mem _ h)
  have hown : s.vm.findClass "IssueRows$Statement" = some m.cls := hown
  have hl : lv_has ls 3 [(0, .ref (bk (K))), (1, .int (x)), (2, .int (nr))] := hl
  refine lv_iload_n hx hb d_S_add_0 rfl (lv_at hl 2 rfl) ?_
  refine lv_if_eq (tgt := 44) hx hb d_S_add_1 (by decide) (fun c_1 => ?_) (fun c_1 => ?_)
  · have c_1 : nr = 0 := c_1
    exact absurd c_1 hnr
  · have c_1 : ¬ nr = 0 := c_1
    refine lv_aload_n hx hb d_S_add_4 rfl (lv_at hl 0 rfl) ?_
    refine pw_get (ci := 6) (v := .int (nI z)) hx hb hw i_S hown hK hP (K) hk he rfl 3 (by decide) (hw _ kF_S_21) rfl d_S_add_5 ?_
    refine lv_sipush (v := 200) hx hb d_S_add_8 (by decide) ?_
    refine lv_icmp_ge (tgt := 44) hx hb d_S_add_11 (by decide) (fun c_2 => ?_) (fun c_2 => ?_)
    · have c_2 : 200 ≤ (nI z) := c_2
      exact absurd c_2 (by rw [show (200 : Int32) = nI 200 from rfl, nI_leI (by decide) (by omega)]; omega)
    · have c_2 : ¬ 200 ≤ (nI z) := c_2
      refine lv_aload_n hx hb d_S_add_14 rfl (lv_at hl 0 rfl) ?_
      refine pw_get (ci := 6) (v := .ref (bk (K1))) hx hb hw i_S hown hK hP (K) hk he rfl 0 (by decide) (hw _ kF_S_9) rfl d_S_add_15 ?_
      refine lv_aload_n hx hb d_S_add_18 rfl (lv_at hl 0 rfl) ?_
      refine pw_get (ci := 6) (v := .int (nI z)) hx hb hw i_S hown hK hP (K) hk he rfl 3 (by decide) (hw _ kF_S_21) rfl d_S_add_19 ?_
      refine lv_iload_n hx hb d_S_add_22 rfl (lv_at hl 1 rfl) ?_
      refine pw_iast (n := 200) (f := f1) hx hb hK hP hD hS 0 (K1) hk1 he1 rfl (z) rfl (by omega) (by decide) d_S_add_23 (fun cw_3 H locs ecw_3 hP hD hS => ?_)
      have h_4 : cw_3 (K) = .inr (6, [.ref (bk (K1)), .ref (bk (K2)), .ref (bk (K3)), .int (nI z)]) := by rw [ecw_3, va_up_ne _ _ (by omega)]; exact he
      have h_5 : cw_3 (K1) = .inl (cs 0, 200, .inl (upd f1 (z) (x))) := by rw [ecw_3]; exact va_up_self _ _ _
      have h_6 : cw_3 (K2) = .inl (cs 0, 200, .inl f2) := by rw [ecw_3, va_up_ne _ _ (by omega)]; exact he2
      have h_7 : cw_3 (K3) = .inl (cs 0, 200, .inl f3) := by rw [ecw_3, va_up_ne _ _ (by omega)]; exact he3
      refine lv_aload_n hx hb d_S_add_24 rfl (lv_at hl 0 rfl) ?_
      refine pw_get (ci := 6) (v := .ref (bk (K3))) hx hb hw i_S hown hK hP (K) hk h_4 rfl 2 (by decide) (hw _ kF_S_18) rfl d_S_add_25 ?_
      refine lv_aload_n hx hb d_S_add_28 rfl (lv_at hl 0 rfl) ?_
      refine pw_get (ci := 6) (v := .int (nI z)) hx hb hw i_S hown hK hP (K) hk h_4 rfl 3 (by decide) (hw _ kF_S_21) rfl d_S_add_29 ?_
      refine lv_iconst (v := 0) hx hb d_S_add_32 (by decide) ?_
      refine pw_iast (n := 200) (f := f3) hx hb hK hP hD hS 0 (K3) hk3 h_7 rfl (z) rfl (by omega) (by decide) d_S_add_33 (fun cw_8 H locs ecw_8 hP hD hS => ?_)
      have h_9 : cw_8 (K) = .inr (6, [.ref (bk (K1)), .ref (bk (K2)), .ref (bk (K3)), .int (nI z)]) := by rw [ecw_8, va_up_ne _ _ (by omega)]; exact h_4
      have h_10 : cw_8 (K1) = .inl (cs 0, 200, .inl (upd f1 (z) (x))) := by rw [ecw_8, va_up_ne _ _ (by omega)]; exact h_5
      have h_11 : cw_8 (K2) = .inl (cs 0, 200, .inl f2) := by rw [ecw_8, va_up_ne _ _ (by omega)]; exact h_6
      have h_12 : cw_8 (K3) = .inl (cs 0, 200, .inl (upd f3 (z) (0))) := by rw [ecw_8]; exact va_up_self _ _ _
      refine lv_aload_n hx hb d_S_add_34 rfl (lv_at hl 0 rfl) ?_
      refine lv_dup hx hb d_S_add_35 rfl ?_
      refine pw_get (ci := 6) (v := .int (nI z)) hx hb hw i_S hown hK hP (K) hk h_9 rfl 3 (by decide) (hw _ kF_S_21) rfl d_S_add_36 ?_
      refine lv_iconst (v := 1) hx hb d_S_add_39 (by decide) ?_
      refine lv_iadd hx hb d_S_add_40 ?_
      rw [show (nI z) + 1 = nI (z + 1) from nI_1 z]
      refine pw_put (ci := 6) (v := .int (nI (z + 1))) (ty := .int) (fs' := [.ref (bk (K1)), .ref (bk (K2)), .ref (bk (K3)), .int (nI (z + 1))]) hx hb hw i_S t_S t_S_ok n_S hown hK hP hD hS (K) hk h_9 rfl 3 (by decide) (hw _ kF_S_21) rfl (t_S_ok 3 (by decide)) rfl rfl (Nat.le_of_ble_eq_true rfl) rfl d_S_add_41 (fun cw_13 H locs ecw_13 hP hD hS => ?_)
      have h_14 : cw_13 (K) = .inr (6, [.ref (bk (K1)), .ref (bk (K2)), .ref (bk (K3)), .int (nI (z + 1))]) := by rw [ecw_13]; exact va_up_self _ _ _
      have h_15 : cw_13 (K1) = .inl (cs 0, 200, .inl (upd f1 (z) (x))) := by rw [ecw_13, va_up_ne _ _ (by omega)]; exact h_10
      have h_16 : cw_13 (K2) = .inl (cs 0, 200, .inl f2) := by rw [ecw_13, va_up_ne _ _ (by omega)]; exact h_11
      have h_17 : cw_13 (K3) = .inl (cs 0, 200, .inl (upd f3 (z) (0))) := by rw [ecw_13, va_up_ne _ _ (by omega)]; exact h_12
      refine lv_aload_n hx hb d_S_add_44 rfl (lv_at hl 0 rfl) ?_
      refine pw_get (ci := 6) (v := .int (nI (z + 1))) hx hb hw i_S hown hK hP (K) hk h_14 rfl 3 (by decide) (hw _ kF_S_21) rfl d_S_add_45 ?_
      refine lv_if_le (tgt := 78) hx hb d_S_add_48 (by decide) (fun c_18 => ?_) (fun c_18 => ?_)
      · have c_18 : (nI (z + 1)) ≤ 0 := c_18
        exact absurd c_18 (nI_nle (by omega) (by omega))
      · have c_18 : ¬ (nI (z + 1)) ≤ 0 := c_18
        refine lv_aload_n hx hb d_S_add_51 rfl (lv_at hl 0 rfl) ?_
        refine pw_get (ci := 6) (v := .ref (bk (K2))) hx hb hw i_S hown hK hP (K) hk h_14 rfl 1 (by decide) (hw _ kF_S_15) rfl d_S_add_52 ?_
        refine lv_aload_n hx hb d_S_add_55 rfl (lv_at hl 0 rfl) ?_
        refine pw_get (ci := 6) (v := .int (nI (z + 1))) hx hb hw i_S hown hK hP (K) hk h_14 rfl 3 (by decide) (hw _ kF_S_21) rfl d_S_add_56 ?_
        refine lv_iconst (v := 1) hx hb d_S_add_59 (by decide) ?_
        refine lv_isub hx hb d_S_add_60 ?_
        rw [show (nI (z + 1)) - 1 = nI z from nI_pred z]
        refine lv_iload_n hx hb d_S_add_61 rfl (lv_at hl 1 rfl) ?_
        refine pw_iast (n := 200) (f := f2) hx hb hK hP hD hS 0 (K2) hk2 h_16 rfl (z) rfl (by omega) (by decide) d_S_add_62 (fun cw_19 H locs ecw_19 hP hD hS => ?_)
        have h_20 : cw_19 (K) = .inr (6, [.ref (bk (K1)), .ref (bk (K2)), .ref (bk (K3)), .int (nI (z + 1))]) := by rw [ecw_19, va_up_ne _ _ (by omega)]; exact h_14
        have h_21 : cw_19 (K1) = .inl (cs 0, 200, .inl (upd f1 (z) (x))) := by rw [ecw_19, va_up_ne _ _ (by omega)]; exact h_15
        have h_22 : cw_19 (K2) = .inl (cs 0, 200, .inl (upd f2 (z) (x))) := by rw [ecw_19]; exact va_up_self _ _ _
        have h_23 : cw_19 (K3) = .inl (cs 0, 200, .inl (upd f3 (z) (0))) := by rw [ecw_19, va_up_ne _ _ (by omega)]; exact h_17
        refine lv_aload_n hx hb d_S_add_63 rfl (lv_at hl 0 rfl) ?_
        refine pw_get (ci := 6) (v := .ref (bk (K3))) hx hb hw i_S hown hK hP (K) hk h_20 rfl 2 (by decide) (hw _ kF_S_18) rfl d_S_add_64 ?_
        refine lv_aload_n hx hb d_S_add_67 rfl (lv_at hl 0 rfl) ?_
        refine pw_get (ci := 6) (v := .int (nI (z + 1))) hx hb hw i_S hown hK hP (K) hk h_20 rfl 3 (by decide) (hw _ kF_S_21) rfl d_S_add_68 ?_
        refine lv_iconst (v := 1) hx hb d_S_add_71 (by decide) ?_
        refine lv_isub hx hb d_S_add_72 ?_
        rw [show (nI (z + 1)) - 1 = nI z from nI_pred z]
        refine lv_dup2_11 hx hb d_S_add_73 rfl rfl ?_
        refine pw_iald (n := 200) (f := (upd f3 (z) (0))) hx hb hK hP 0 (K3) hk3 h_23 rfl (z) rfl (by omega) (by decide) d_S_add_74 ?_
        refine lv_iconst (v := 1) hx hb d_S_add_75 (by decide) ?_
        refine lv_iadd hx hb d_S_add_76 ?_
        refine pw_iast (n := 200) (f := (upd f3 (z) (0))) hx hb hK hP hD hS 0 (K3) hk3 h_23 rfl (z) rfl (by omega) (by decide) d_S_add_77 (fun cw_24 H locs ecw_24 hP hD hS => ?_)
        have h_25 : cw_24 (K) = .inr (6, [.ref (bk (K1)), .ref (bk (K2)), .ref (bk (K3)), .int (nI (z + 1))]) := by rw [ecw_24, va_up_ne _ _ (by omega)]; exact h_20
        have h_26 : cw_24 (K1) = .inl (cs 0, 200, .inl (upd f1 (z) (x))) := by rw [ecw_24, va_up_ne _ _ (by omega)]; exact h_21
        have h_27 : cw_24 (K2) = .inl (cs 0, 200, .inl (upd f2 (z) (x))) := by rw [ecw_24, va_up_ne _ _ (by omega)]; exact h_22
        have h_28 : cw_24 (K3) = .inl (cs 0, 200, .inl (upd (upd f3 (z) (0)) (z) (((upd f3 (z) (0)) (z)) + 1))) := by rw [ecw_24]; exact va_up_self _ _ _
        exact W.vret hx hb hr (fun t ht hW => ⟨⟨(N, bk, cw_24), rfl, by rw [ecw_24, ecw_19, ecw_13, ecw_8, ecw_3], by rw [ht]; exact hP, va_K.moved hW.alike hK, hD⟩, hS.F ht⟩) hS.2.2 d_S_add_78
set_option maxHeartbeats 4000000 in
set_option maxRecDepth 100000 in
theorem c_S_add0 (l : Launch) (D : va_G) (cs : Nat → ClassId) (N : Nat) (bk : Nat → Nat) (cw : Nat → va_E) (sz : Nat) (K K1 K2 K3 : Nat) (hk : K < N) (z : Nat) (he : cw K = .inr (6, [.ref (bk K1), .ref (bk K2), .ref (bk K3), .int (nI (z + 1))])) (hz : z < 200) (f1 f2 f3 : Nat → Int32) (hk1 : K1 < N) (he1 : cw K1 = .inl (cs 0, 200, .inl f1)) (hk2 : K2 < N) (he2 : cw K2 = .inl (cs 0, 200, .inl f2)) (hk3 : K3 < N) (he3 : cw K3 = .inl (cs 0, 200, .inl f3)) (n1 : K ≠ K1) (n2 : K ≠ K2) (n3 : K ≠ K3) (n4 : K1 ≠ K2) (n5 : K1 ≠ K3) (n6 : K2 ≠ K3) (x nr : Int32) (hnr : nr = 0) : Met l y_S_add w_S_add ({ frames := 0, cells := 0, slots := 0, locals := 0 }) (va_Pc [.ref (bk (K)), .int (x), .int (nr)] (PB D classes (TY cs) N bk cw sz)) (va_Qv (fun u : Wt => u = (N, bk, va_up (va_up cw K2 (.inl (cs 0, 200, .inl (upd f2 z x)))) K3 (.inl (cs 0, 200, .inl (upd f3 z (f3 z + 1)))))) (Wd D classes (TY cs) (AA N bk sz)) (AA N bk sz)) 0 0 (AA N bk sz) := by
  refine pw_entry (cc := b_S_add) (maxL := 3) (ret := none) (by decide +kernel) rfl (Nat.le_of_ble_eq_true rfl) ?_
  intro p_ e_ s m below_ meth_ c_ ls hx hb hr hml hts hown hlocks hin hsz hP hK hD hS hA hN hl
  have hw : ∀ w ∈ WA, w.before _ s = true := fun w h => hts w (List.mem_cons_of_mem _ h)
  have hown : s.vm.findClass "IssueRows$Statement" = some m.cls := hown
  have hl : lv_has ls 3 [(0, .ref (bk (K))), (1, .int (x)), (2, .int (nr))] := hl
  refine lv_iload_n hx hb d_S_add_0 rfl (lv_at hl 2 rfl) ?_
  refine lv_if_eq (tgt := 44) hx hb d_S_add_1 (by decide) (fun c_1 => ?_) (fun c_1 => ?_)
  · have c_1 : nr = 0 := c_1
    refine lv_aload_n hx hb d_S_add_44 rfl (lv_at hl 0 rfl) ?_
    refine pw_get (ci := 6) (v := .int (nI (z + 1))) hx hb hw i_S hown hK hP (K) hk he rfl 3 (by decide) (hw _ kF_S_21) rfl d_S_add_45 ?_
    refine lv_if_le (tgt := 78) hx hb d_S_add_48 (by decide) (fun c_2 => ?_) (fun c_2 => ?_)
    · have c_2 : (nI (z + 1)) ≤ 0 := c_2
      exact absurd c_2 (nI_nle (by omega) (by omega))
    · have c_2 : ¬ (nI (z + 1)) ≤ 0 := c_2
      refine lv_aload_n hx hb d_S_add_51 rfl (lv_at hl 0 rfl) ?_
      refine pw_get (ci := 6) (v := .ref (bk (K2))) hx hb hw i_S hown hK hP (K) hk he rfl 1 (by decide) (hw _ kF_S_15) rfl d_S_add_52 ?_
      refine lv_aload_n hx hb d_S_add_55 rfl (lv_at hl 0 rfl) ?_
      refine pw_get (ci := 6) (v := .int (nI (z + 1))) hx hb hw i_S hown hK hP (K) hk he rfl 3 (by decide) (hw _ kF_S_21) rfl d_S_add_56 ?_
      refine lv_iconst (v := 1) hx hb d_S_add_59 (by decide) ?_
      refine lv_isub hx hb d_S_add_60 ?_
      rw [show (nI (z + 1)) - 1 = nI z from nI_pred z]
      refine lv_iload_n hx hb d_S_add_61 rfl (lv_at hl 1 rfl) ?_
      refine pw_iast (n := 200) (f := f2) hx hb hK hP hD hS 0 (K2) hk2 he2 rfl (z) rfl (by omega) (by decide) d_S_add_62 (fun cw_3 H locs ecw_3 hP hD hS => ?_)
      have h_4 : cw_3 (K) = .inr (6, [.ref (bk (K1)), .ref (bk (K2)), .ref (bk (K3)), .int (nI (z + 1))]) := by rw [ecw_3, va_up_ne _ _ (by omega)]; exact he
      have h_5 : cw_3 (K1) = .inl (cs 0, 200, .inl f1) := by rw [ecw_3, va_up_ne _ _ (by omega)]; exact he1
      have h_6 : cw_3 (K2) = .inl (cs 0, 200, .inl (upd f2 (z) (x))) := by rw [ecw_3]; exact va_up_self _ _ _
      have h_7 : cw_3 (K3) = .inl (cs 0, 200, .inl f3) := by rw [ecw_3, va_up_ne _ _ (by omega)]; exact he3
      refine lv_aload_n hx hb d_S_add_63 rfl (lv_at hl 0 rfl) ?_
      refine pw_get (ci := 6) (v := .ref (bk (K3))) hx hb hw i_S hown hK hP (K) hk h_4 rfl 2 (by decide) (hw _ kF_S_18) rfl d_S_add_64 ?_
      refine lv_aload_n hx hb d_S_add_67 rfl (lv_at hl 0 rfl) ?_
      refine pw_get (ci := 6) (v := .int (nI (z + 1))) hx hb hw i_S hown hK hP (K) hk h_4 rfl 3 (by decide) (hw _ kF_S_21) rfl d_S_add_68 ?_
      refine lv_iconst (v := 1) hx hb d_S_add_71 (by decide) ?_
      refine lv_isub hx hb d_S_add_72 ?_
      rw [show (nI (z + 1)) - 1 = nI z from nI_pred z]
      refine lv_dup2_11 hx hb d_S_add_73 rfl rfl ?_
      refine pw_iald (n := 200) (f := f3) hx hb hK hP 0 (K3) hk3 h_7 rfl (z) rfl (by omega) (by decide) d_S_add_74 ?_
      refine lv_iconst (v := 1) hx hb d_S_add_75 (by decide) ?_
      refine lv_iadd hx hb d_S_add_76 ?_
      refine pw_iast (n := 200) (f := f3) hx hb hK hP hD hS 0 (K3) hk3 h_7 rfl (z) rfl (by omega) (by decide) d_S_add_77 (fun cw_8 H locs ecw_8 hP hD hS => ?_)
      have h_9 : cw_8 (K) = .inr (6, [.ref (bk (K1)), .ref (bk (K2)), .ref (bk (K3)), .int (nI (z + 1))]) := by rw [ecw_8, va_up_ne _ _ (by omega)]; exact h_4
      have h_10 : cw_8 (K1) = .inl (cs 0, 200, .inl f1) := by rw [ecw_8, va_up_ne _ _ (by omega)]; exact h_5
      have h_11 : cw_8 (K2) = .inl (cs 0, 200, .inl (upd f2 (z) (x))) := by rw [ecw_8, va_up_ne _ _ (by omega)]; exact h_6
      have h_12 : cw_8 (K3) = .inl (cs 0, 200, .inl (upd f3 (z) ((f3 (z)) + 1))) := by rw [ecw_8]; exact va_up_self _ _ _
      exact W.vret hx hb hr (fun t ht hW => ⟨⟨(N, bk, cw_8), rfl, by rw [ecw_8, ecw_3], by rw [ht]; exact hP, va_K.moved hW.alike hK, hD⟩, hS.F ht⟩) hS.2.2 d_S_add_78
  · have c_1 : ¬ nr = 0 := c_1
    exact absurd hnr c_1
